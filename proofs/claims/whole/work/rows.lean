section
-- ===== PART A: goes FIRST, ahead of the names: the tables' words, and 'selects' of the private methods out of them =====
/-- a private method of a class that the tables say can be made, by its rows of tables_1 -/
def lw_okq (q : MethodName × Nat) : Prop := (q.1.cls ≠ "java/lang/invoke/MethodHandle" ∧ q.1.cls ≠ "java/lang/invoke/VarHandle") ∧ Cond.instantiable q.1.cls q.2 ∈ tables_1 ∧ Cond.privateMethod q.1 ∈ tables_1 ∧ Cond.instanceMethod q.1 ∈ tables_1
theorem lw_p0 : lw_okq (⟨"LaneNets", "finding", "(I)I"⟩, 11) := ⟨⟨by decide +kernel, by decide +kernel⟩, List.mem_of_getElem? (i := 12) (by decide +kernel), List.mem_of_getElem? (i := 158) (by decide +kernel), List.mem_of_getElem? (i := 159) (by decide +kernel)⟩
theorem lw_p1 : lw_okq (⟨"LaneNets", "lastRound", "(I)I"⟩, 11) := ⟨⟨by decide +kernel, by decide +kernel⟩, List.mem_of_getElem? (i := 12) (by decide +kernel), List.mem_of_getElem? (i := 245) (by decide +kernel), List.mem_of_getElem? (i := 246) (by decide +kernel)⟩
theorem lw_p2 : lw_okq (⟨"LaneNets", "findingOfLoad", "(II)I"⟩, 11) := ⟨⟨by decide +kernel, by decide +kernel⟩, List.mem_of_getElem? (i := 12) (by decide +kernel), List.mem_of_getElem? (i := 271) (by decide +kernel), List.mem_of_getElem? (i := 272) (by decide +kernel)⟩
theorem lw_p3 : lw_okq (⟨"LaneNets", "findingOfCrate", "(I)I"⟩, 11) := ⟨⟨by decide +kernel, by decide +kernel⟩, List.mem_of_getElem? (i := 12) (by decide +kernel), List.mem_of_getElem? (i := 275) (by decide +kernel), List.mem_of_getElem? (i := 276) (by decide +kernel)⟩
theorem lw_p4 : lw_okq (⟨"LaneNets$Crate", "rank", "(J)J"⟩, 3) := ⟨⟨by decide +kernel, by decide +kernel⟩, List.mem_of_getElem? (i := 101) (by decide +kernel), List.mem_of_getElem? (i := 328) (by decide +kernel), List.mem_of_getElem? (i := 329) (by decide +kernel)⟩
theorem lw_p5 : lw_okq (⟨"LaneNets", "leastFailing", "(I)I"⟩, 11) := ⟨⟨by decide +kernel, by decide +kernel⟩, List.mem_of_getElem? (i := 12) (by decide +kernel), List.mem_of_getElem? (i := 385) (by decide +kernel), List.mem_of_getElem? (i := 386) (by decide +kernel)⟩
theorem lw_p6 : lw_okq (⟨"LaneNets", "failingRows", "(II)J"⟩, 11) := ⟨⟨by decide +kernel, by decide +kernel⟩, List.mem_of_getElem? (i := 12) (by decide +kernel), List.mem_of_getElem? (i := 392) (by decide +kernel), List.mem_of_getElem? (i := 393) (by decide +kernel)⟩
theorem lw_p7 : lw_okq (⟨"LaneNets", "toldOrFinding", "(I)I"⟩, 11) := ⟨⟨by decide +kernel, by decide +kernel⟩, List.mem_of_getElem? (i := 12) (by decide +kernel), List.mem_of_getElem? (i := 413) (by decide +kernel), List.mem_of_getElem? (i := 414) (by decide +kernel)⟩
theorem lw_p8 : lw_okq (⟨"LaneNets", "busyComparers", "()J"⟩, 11) := ⟨⟨by decide +kernel, by decide +kernel⟩, List.mem_of_getElem? (i := 12) (by decide +kernel), List.mem_of_getElem? (i := 427) (by decide +kernel), List.mem_of_getElem? (i := 428) (by decide +kernel)⟩
theorem lw_p9 : lw_okq (⟨"LaneNets", "findCompletion", "()V"⟩, 11) := ⟨⟨by decide +kernel, by decide +kernel⟩, List.mem_of_getElem? (i := 12) (by decide +kernel), List.mem_of_getElem? (i := 460) (by decide +kernel), List.mem_of_getElem? (i := 461) (by decide +kernel)⟩
theorem lw_p10 : lw_okq (⟨"LaneNets", "findingOfSlot", "(I)I"⟩, 11) := ⟨⟨by decide +kernel, by decide +kernel⟩, List.mem_of_getElem? (i := 12) (by decide +kernel), List.mem_of_getElem? (i := 511) (by decide +kernel), List.mem_of_getElem? (i := 512) (by decide +kernel)⟩
theorem lw_p11 : lw_okq (⟨"LaneNets", "findingOfFit", "(I)I"⟩, 11) := ⟨⟨by decide +kernel, by decide +kernel⟩, List.mem_of_getElem? (i := 12) (by decide +kernel), List.mem_of_getElem? (i := 523) (by decide +kernel), List.mem_of_getElem? (i := 524) (by decide +kernel)⟩
theorem lw_p12 : lw_okq (⟨"LaneNets", "areLanePairs", "(I)Z"⟩, 11) := ⟨⟨by decide +kernel, by decide +kernel⟩, List.mem_of_getElem? (i := 12) (by decide +kernel), List.mem_of_getElem? (i := 543) (by decide +kernel), List.mem_of_getElem? (i := 544) (by decide +kernel)⟩
theorem lw_p13 : lw_okq (⟨"LaneNetsModel", "found", "(I)I"⟩, 25) := ⟨⟨by decide +kernel, by decide +kernel⟩, List.mem_of_getElem? (i := 559) (by decide +kernel), List.mem_of_getElem? (i := 646) (by decide +kernel), List.mem_of_getElem? (i := 647) (by decide +kernel)⟩
theorem lw_p14 : lw_okq (⟨"LaneNetsModel", "restore", "(I)V"⟩, 25) := ⟨⟨by decide +kernel, by decide +kernel⟩, List.mem_of_getElem? (i := 559) (by decide +kernel), List.mem_of_getElem? (i := 650) (by decide +kernel), List.mem_of_getElem? (i := 651) (by decide +kernel)⟩
theorem lw_p15 : lw_okq (⟨"LaneNetsModel", "begins", "()V"⟩, 25) := ⟨⟨by decide +kernel, by decide +kernel⟩, List.mem_of_getElem? (i := 559) (by decide +kernel), List.mem_of_getElem? (i := 661) (by decide +kernel), List.mem_of_getElem? (i := 662) (by decide +kernel)⟩
def lw_privs_1 : List (MethodName × Nat) := [(⟨"LaneNets", "finding", "(I)I"⟩, 11), (⟨"LaneNets", "lastRound", "(I)I"⟩, 11), (⟨"LaneNets", "findingOfLoad", "(II)I"⟩, 11), (⟨"LaneNets", "findingOfCrate", "(I)I"⟩, 11), (⟨"LaneNets$Crate", "rank", "(J)J"⟩, 3), (⟨"LaneNets", "leastFailing", "(I)I"⟩, 11), (⟨"LaneNets", "failingRows", "(II)J"⟩, 11), (⟨"LaneNets", "toldOrFinding", "(I)I"⟩, 11), (⟨"LaneNets", "busyComparers", "()J"⟩, 11), (⟨"LaneNets", "findCompletion", "()V"⟩, 11), (⟨"LaneNets", "findingOfSlot", "(I)I"⟩, 11), (⟨"LaneNets", "findingOfFit", "(I)I"⟩, 11), (⟨"LaneNets", "areLanePairs", "(I)Z"⟩, 11), (⟨"LaneNetsModel", "found", "(I)I"⟩, 25), (⟨"LaneNetsModel", "restore", "(I)V"⟩, 25), (⟨"LaneNetsModel", "begins", "()V"⟩, 25)]
theorem lw_r1 : ∀ q ∈ lw_privs_1, lw_okq q := List.forall_mem_cons.mpr ⟨lw_p0, List.forall_mem_cons.mpr ⟨lw_p1, List.forall_mem_cons.mpr ⟨lw_p2, List.forall_mem_cons.mpr ⟨lw_p3, List.forall_mem_cons.mpr ⟨lw_p4, List.forall_mem_cons.mpr ⟨lw_p5, List.forall_mem_cons.mpr ⟨lw_p6, List.forall_mem_cons.mpr ⟨lw_p7, List.forall_mem_cons.mpr ⟨lw_p8, List.forall_mem_cons.mpr ⟨lw_p9, List.forall_mem_cons.mpr ⟨lw_p10, List.forall_mem_cons.mpr ⟨lw_p11, List.forall_mem_cons.mpr ⟨lw_p12, List.forall_mem_cons.mpr ⟨lw_p13, List.forall_mem_cons.mpr ⟨lw_p14, List.forall_mem_cons.mpr ⟨lw_p15, fun _ h => absurd h List.not_mem_nil⟩⟩⟩⟩⟩⟩⟩⟩⟩⟩⟩⟩⟩⟩⟩⟩
theorem lw_p16 : lw_okq (⟨"LaneNetsModel", "store", "(I)V"⟩, 25) := ⟨⟨by decide +kernel, by decide +kernel⟩, List.mem_of_getElem? (i := 559) (by decide +kernel), List.mem_of_getElem? (i := 665) (by decide +kernel), List.mem_of_getElem? (i := 666) (by decide +kernel)⟩
theorem lw_p17 : lw_okq (⟨"LaneNetsModel", "isLane", "(I)Z"⟩, 25) := ⟨⟨by decide +kernel, by decide +kernel⟩, List.mem_of_getElem? (i := 559) (by decide +kernel), List.mem_of_getElem? (i := 673) (by decide +kernel), List.mem_of_getElem? (i := 674) (by decide +kernel)⟩
theorem lw_p18 : lw_okq (⟨"LaneNetsModel", "add", "(III)V"⟩, 25) := ⟨⟨by decide +kernel, by decide +kernel⟩, List.mem_of_getElem? (i := 559) (by decide +kernel), List.mem_of_getElem? (i := 677) (by decide +kernel), List.mem_of_getElem? (i := 678) (by decide +kernel)⟩
theorem lw_p19 : lw_okq (⟨"LaneNetsModel", "isComparer", "(I)Z"⟩, 25) := ⟨⟨by decide +kernel, by decide +kernel⟩, List.mem_of_getElem? (i := 559) (by decide +kernel), List.mem_of_getElem? (i := 689) (by decide +kernel), List.mem_of_getElem? (i := 690) (by decide +kernel)⟩
theorem lw_p20 : lw_okq (⟨"LaneNetsModel", "roundOf", "(I)I"⟩, 25) := ⟨⟨by decide +kernel, by decide +kernel⟩, List.mem_of_getElem? (i := 559) (by decide +kernel), List.mem_of_getElem? (i := 708) (by decide +kernel), List.mem_of_getElem? (i := 709) (by decide +kernel)⟩
theorem lw_p21 : lw_okq (⟨"LaneNetsModel", "lacks", "(II)I"⟩, 25) := ⟨⟨by decide +kernel, by decide +kernel⟩, List.mem_of_getElem? (i := 559) (by decide +kernel), List.mem_of_getElem? (i := 727) (by decide +kernel), List.mem_of_getElem? (i := 728) (by decide +kernel)⟩
theorem lw_p22 : lw_okq (⟨"LaneNetsModel", "against", "(III)I"⟩, 25) := ⟨⟨by decide +kernel, by decide +kernel⟩, List.mem_of_getElem? (i := 559) (by decide +kernel), List.mem_of_getElem? (i := 754) (by decide +kernel), List.mem_of_getElem? (i := 755) (by decide +kernel)⟩
theorem lw_p23 : lw_okq (⟨"LaneNetsModel", "key", "(II)J"⟩, 25) := ⟨⟨by decide +kernel, by decide +kernel⟩, List.mem_of_getElem? (i := 559) (by decide +kernel), List.mem_of_getElem? (i := 758) (by decide +kernel), List.mem_of_getElem? (i := 759) (by decide +kernel)⟩
theorem lw_p24 : lw_okq (⟨"LaneNetsModel", "changes", "(II)Z"⟩, 25) := ⟨⟨by decide +kernel, by decide +kernel⟩, List.mem_of_getElem? (i := 559) (by decide +kernel), List.mem_of_getElem? (i := 763) (by decide +kernel), List.mem_of_getElem? (i := 764) (by decide +kernel)⟩
theorem lw_p25 : lw_okq (⟨"LaneNetsModel", "rows", "()I"⟩, 25) := ⟨⟨by decide +kernel, by decide +kernel⟩, List.mem_of_getElem? (i := 559) (by decide +kernel), List.mem_of_getElem? (i := 779) (by decide +kernel), List.mem_of_getElem? (i := 780) (by decide +kernel)⟩
theorem lw_p26 : lw_okq (⟨"LaneNetsModel", "goes", "(III)I"⟩, 25) := ⟨⟨by decide +kernel, by decide +kernel⟩, List.mem_of_getElem? (i := 559) (by decide +kernel), List.mem_of_getElem? (i := 783) (by decide +kernel), List.mem_of_getElem? (i := 784) (by decide +kernel)⟩
theorem lw_p27 : lw_okq (⟨"LaneNetsModel", "failing", "(I)I"⟩, 25) := ⟨⟨by decide +kernel, by decide +kernel⟩, List.mem_of_getElem? (i := 559) (by decide +kernel), List.mem_of_getElem? (i := 794) (by decide +kernel), List.mem_of_getElem? (i := 795) (by decide +kernel)⟩
theorem lw_p28 : lw_okq (⟨"LaneNetsModel", "isRising", "(I)Z"⟩, 25) := ⟨⟨by decide +kernel, by decide +kernel⟩, List.mem_of_getElem? (i := 559) (by decide +kernel), List.mem_of_getElem? (i := 798) (by decide +kernel), List.mem_of_getElem? (i := 799) (by decide +kernel)⟩
theorem lw_p29 : lw_okq (⟨"LaneNetsModel", "isIdle", "(I)Z"⟩, 25) := ⟨⟨by decide +kernel, by decide +kernel⟩, List.mem_of_getElem? (i := 559) (by decide +kernel), List.mem_of_getElem? (i := 814) (by decide +kernel), List.mem_of_getElem? (i := 815) (by decide +kernel)⟩
theorem lw_p30 : lw_okq (⟨"LaneNetsModel", "shortest", "()I"⟩, 25) := ⟨⟨by decide +kernel, by decide +kernel⟩, List.mem_of_getElem? (i := 559) (by decide +kernel), List.mem_of_getElem? (i := 834) (by decide +kernel), List.mem_of_getElem? (i := 835) (by decide +kernel)⟩
theorem lw_p31 : lw_okq (⟨"LaneNetsModel", "does", "(I)Z"⟩, 25) := ⟨⟨by decide +kernel, by decide +kernel⟩, List.mem_of_getElem? (i := 559) (by decide +kernel), List.mem_of_getElem? (i := 838) (by decide +kernel), List.mem_of_getElem? (i := 839) (by decide +kernel)⟩
def lw_privs_2 : List (MethodName × Nat) := [(⟨"LaneNetsModel", "store", "(I)V"⟩, 25), (⟨"LaneNetsModel", "isLane", "(I)Z"⟩, 25), (⟨"LaneNetsModel", "add", "(III)V"⟩, 25), (⟨"LaneNetsModel", "isComparer", "(I)Z"⟩, 25), (⟨"LaneNetsModel", "roundOf", "(I)I"⟩, 25), (⟨"LaneNetsModel", "lacks", "(II)I"⟩, 25), (⟨"LaneNetsModel", "against", "(III)I"⟩, 25), (⟨"LaneNetsModel", "key", "(II)J"⟩, 25), (⟨"LaneNetsModel", "changes", "(II)Z"⟩, 25), (⟨"LaneNetsModel", "rows", "()I"⟩, 25), (⟨"LaneNetsModel", "goes", "(III)I"⟩, 25), (⟨"LaneNetsModel", "failing", "(I)I"⟩, 25), (⟨"LaneNetsModel", "isRising", "(I)Z"⟩, 25), (⟨"LaneNetsModel", "isIdle", "(I)Z"⟩, 25), (⟨"LaneNetsModel", "shortest", "()I"⟩, 25), (⟨"LaneNetsModel", "does", "(I)Z"⟩, 25)]
theorem lw_r2 : ∀ q ∈ lw_privs_2, lw_okq q := List.forall_mem_cons.mpr ⟨lw_p16, List.forall_mem_cons.mpr ⟨lw_p17, List.forall_mem_cons.mpr ⟨lw_p18, List.forall_mem_cons.mpr ⟨lw_p19, List.forall_mem_cons.mpr ⟨lw_p20, List.forall_mem_cons.mpr ⟨lw_p21, List.forall_mem_cons.mpr ⟨lw_p22, List.forall_mem_cons.mpr ⟨lw_p23, List.forall_mem_cons.mpr ⟨lw_p24, List.forall_mem_cons.mpr ⟨lw_p25, List.forall_mem_cons.mpr ⟨lw_p26, List.forall_mem_cons.mpr ⟨lw_p27, List.forall_mem_cons.mpr ⟨lw_p28, List.forall_mem_cons.mpr ⟨lw_p29, List.forall_mem_cons.mpr ⟨lw_p30, List.forall_mem_cons.mpr ⟨lw_p31, fun _ h => absurd h List.not_mem_nil⟩⟩⟩⟩⟩⟩⟩⟩⟩⟩⟩⟩⟩⟩⟩⟩
theorem lw_p32 : lw_okq (⟨"LaneNetsModel", "pair", "(I)I"⟩, 25) := ⟨⟨by decide +kernel, by decide +kernel⟩, List.mem_of_getElem? (i := 559) (by decide +kernel), List.mem_of_getElem? (i := 842) (by decide +kernel), List.mem_of_getElem? (i := 843) (by decide +kernel)⟩
def lw_privs_3 : List (MethodName × Nat) := [(⟨"LaneNetsModel", "pair", "(I)I"⟩, 25)]
theorem lw_r3 : ∀ q ∈ lw_privs_3, lw_okq q := List.forall_mem_cons.mpr ⟨lw_p32, fun _ h => absurd h List.not_mem_nil⟩
def lw_privs : List (MethodName × Nat) := lw_privs_1 ++ (lw_privs_2 ++ (lw_privs_3))
def lw_tbl : List Cond := k2_sels lw_privs ++ tables_1
theorem lw_privs_ok : ∀ q ∈ lw_privs, lw_okq q := by
  show ∀ q ∈ lw_privs_1 ++ (lw_privs_2 ++ (lw_privs_3)), lw_okq q
  exact List.forall_mem_append.mpr ⟨lw_r1, List.forall_mem_append.mpr ⟨lw_r2, lw_r3⟩⟩
end
section
/-! ===== BEGIN words of one list among another's, by their places ===== -/
theorem goodIn_r {big : List Cond} (ws : List Cond) (ps : List Nat) (hp : ws = ps.filterMap (fun i => big[i]?)) (h : ws.all goodWord = true) : GoodIn big ws := by
  intro w hw
  have h1 := List.all_eq_true.mp h w hw
  rw [hp] at hw
  obtain ⟨i, -, hi⟩ := List.mem_filterMap.mp hw
  have hm : w ∈ big := by first | exact List.mem_of_getElem? hi | exact List.getElem?_mem hi
  exact ⟨hm, good_of_word h1⟩
theorem goodIn_app {big a b : List Cond} (ha : GoodIn big a) (hb : GoodIn big b) : GoodIn big (a ++ b) := fun w h => (List.mem_append.mp h).elim (ha w) (hb w)
theorem goodIn_ca {big a b : List Cond} {c : Cond} (ha : GoodIn big (c :: a)) (hb : GoodIn big b) : GoodIn big (c :: (a ++ b)) := fun w h => (List.mem_cons.mp h).elim (fun e => ha w (List.mem_cons.mpr (Or.inl e))) (fun h => (List.mem_append.mp h).elim (fun h => ha w (List.mem_cons.mpr (Or.inr h))) (hb w))
theorem goodIn_sub {big ws : List Cond} (hm : ∀ w ∈ ws, w ∈ big) (h : ws.all goodWord = true) : GoodIn big ws := fun w hw => ⟨hm w hw, good_of_word (List.all_eq_true.mp h w hw)⟩
/-! ===== END ===== -/

/-! ===== BEGIN printed: names, fields, word lists, decode rows ===== -/
def RX0 : String := "LaneNets$Completion"
def TX0 : u_T := fun k => match k with
  | 0 => ("LaneNets$Completion", "pairs", "[I", true)
  | 1 => ("LaneNets$Completion", "fewest", "I", false)
  | 2 => ("LaneNets$Completion", "knownLanes", "I", false)
  | _ => ("LaneNets$Completion", "knownColumns", "J", false)
def tyX0 : Nat → FieldType := fun k => match k with
  | 0 => .array .int
  | 1 => .int
  | 2 => .int
  | _ => .long
abbrev wsX00 : List Cond := u_ws RX0 TX0 4
theorem nmX0 : ∀ a, a < 4 → ∀ b, b < 4 → a ≠ b → (TX0 a).2.1 ≠ (TX0 b).2.1 := by decide +kernel
theorem tyX0_ok : ∀ k, k < 4 → parseFieldDescriptor (TX0 k).2.2.1 = some (tyX0 k) := by decide +kernel
abbrev cX0_init : ByteArray := prog_2_method_1_code
def yX0_init : MethodName := ⟨RX0, "<init>", "()V"⟩
abbrev cX0_find : ByteArray := prog_2_method_2_code
def yX0_find : MethodName := ⟨RX0, "find", "(IJ)V"⟩
abbrev cX0_completes : ByteArray := prog_2_method_3_code
def yX0_completes : MethodName := ⟨RX0, "completes", "(JIII[I)Z"⟩
abbrev cX0_column : ByteArray := prog_2_method_4_code
def yX0_column : MethodName := ⟨RX0, "column", "(JI)J"⟩
abbrev cX0_compared : ByteArray := prog_2_method_5_code
def yX0_compared : MethodName := ⟨RX0, "compared", "(JII)J"⟩
abbrev cX0_areRising : ByteArray := prog_2_method_6_code
def yX0_areRising : MethodName := ⟨RX0, "areRising", "(JI)Z"⟩
def RX1 : String := "LaneNets$Crate"
def TX1 : u_T := fun k => match k with
  | 0 => ("LaneNets$Crate", "kind", "I", false)
  | 1 => ("LaneNets$Crate", "count", "I", false)
  | _ => ("LaneNets$Crate", "loads", "[J", true)
def tyX1 : Nat → FieldType := fun k => match k with
  | 0 => .int
  | 1 => .int
  | _ => .array .long
abbrev wsX10 : List Cond := u_ws RX1 TX1 3
theorem nmX1 : ∀ a, a < 3 → ∀ b, b < 3 → a ≠ b → (TX1 a).2.1 ≠ (TX1 b).2.1 := by decide +kernel
theorem tyX1_ok : ∀ k, k < 3 → parseFieldDescriptor (TX1 k).2.2.1 = some (tyX1 k) := by decide +kernel
abbrev cX1_init : ByteArray := prog_3_method_1_code
def yX1_init : MethodName := ⟨RX1, "<init>", "()V"⟩
abbrev cX1_isMissing : ByteArray := prog_3_method_2_code
def yX1_isMissing : MethodName := ⟨RX1, "isMissing", "()Z"⟩
abbrev cX1_hasPart : ByteArray := prog_3_method_3_code
def yX1_hasPart : MethodName := ⟨RX1, "hasPart", "(II)Z"⟩
abbrev cX1_renew : ByteArray := prog_3_method_4_code
def yX1_renew : MethodName := ⟨RX1, "renew", "(II)V"⟩
abbrev cX1_write : ByteArray := prog_3_method_5_code
def yX1_write : MethodName := ⟨RX1, "write", "(IJ)V"⟩
abbrev cX1_fitted : ByteArray := prog_3_method_6_code
def yX1_fitted : MethodName := ⟨RX1, "fitted", "(IJ)J"⟩
abbrev cX1_compare : ByteArray := prog_3_method_7_code
def yX1_compare : MethodName := ⟨RX1, "compare", "(II)I"⟩
abbrev cX1_rank : ByteArray := prog_3_method_8_code
def yX1_rank : MethodName := ⟨RX1, "rank", "(J)J"⟩
abbrev cX1_mustChange : ByteArray := prog_3_method_9_code
def yX1_mustChange : MethodName := ⟨RX1, "mustChange", "(III)Z"⟩
abbrev cX1_exchange : ByteArray := prog_3_method_10_code
def yX1_exchange : MethodName := ⟨RX1, "exchange", "(II)V"⟩
def RX2 : String := "LaneNets$History"
def TX2 : u_T := fun k => match k with
  | 0 => ("LaneNets$History", "nets", "[LLaneNets$Net;", true)
  | 1 => ("LaneNets$History", "free", "I", false)
  | _ => ("LaneNets$History", "held", "I", false)
def tyX2 : Nat → FieldType := fun k => match k with
  | 0 => .array (.object "LaneNets$Net")
  | 1 => .int
  | _ => .int
abbrev wsX20 : List Cond := u_ws RX2 TX2 3
theorem nmX2 : ∀ a, a < 3 → ∀ b, b < 3 → a ≠ b → (TX2 a).2.1 ≠ (TX2 b).2.1 := by decide +kernel
theorem tyX2_ok : ∀ k, k < 3 → parseFieldDescriptor (TX2 k).2.2.1 = some (tyX2 k) := by decide +kernel
abbrev cX2_init : ByteArray := prog_4_method_1_code
def yX2_init : MethodName := ⟨RX2, "<init>", "()V"⟩
abbrev cX2_remember : ByteArray := prog_4_method_2_code
def yX2_remember : MethodName := ⟨RX2, "remember", "(LLaneNets$Net;)V"⟩
abbrev cX2_giveBack : ByteArray := prog_4_method_3_code
def yX2_giveBack : MethodName := ⟨RX2, "giveBack", "(LLaneNets$Net;)V"⟩
def RX3 : String := "LaneNets$Net"
def TX3 : u_T := fun k => match k with
  | 0 => ("LaneNets$Net", "lanes", "I", false)
  | 1 => ("LaneNets$Net", "count", "I", false)
  | _ => ("LaneNets$Net", "comparers", "[I", true)
def tyX3 : Nat → FieldType := fun k => match k with
  | 0 => .int
  | 1 => .int
  | _ => .array .int
abbrev wsX30 : List Cond := u_ws RX3 TX3 3
theorem nmX3 : ∀ a, a < 3 → ∀ b, b < 3 → a ≠ b → (TX3 a).2.1 ≠ (TX3 b).2.1 := by decide +kernel
theorem tyX3_ok : ∀ k, k < 3 → parseFieldDescriptor (TX3 k).2.2.1 = some (tyX3 k) := by decide +kernel
abbrev cX3_init : ByteArray := prog_5_method_1_code
def yX3_init : MethodName := ⟨RX3, "<init>", "()V"⟩
abbrev cX3_isNone : ByteArray := prog_5_method_2_code
def yX3_isNone : MethodName := ⟨RX3, "isNone", "()Z"⟩
abbrev cX3_has : ByteArray := prog_5_method_3_code
def yX3_has : MethodName := ⟨RX3, "has", "(I)Z"⟩
abbrev cX3_hasLane : ByteArray := prog_5_method_4_code
def yX3_hasLane : MethodName := ⟨RX3, "hasLane", "(I)Z"⟩
abbrev cX3_kind : ByteArray := prog_5_method_5_code
def yX3_kind : MethodName := ⟨RX3, "kind", "(I)I"⟩
abbrev cX3_low : ByteArray := prog_5_method_6_code
def yX3_low : MethodName := ⟨RX3, "low", "(I)I"⟩
abbrev cX3_high : ByteArray := prog_5_method_7_code
def yX3_high : MethodName := ⟨RX3, "high", "(I)I"⟩
abbrev cX3_switchOf : ByteArray := prog_5_method_8_code
def yX3_switchOf : MethodName := ⟨RX3, "switchOf", "(I)I"⟩
abbrev cX3_actingKind : ByteArray := prog_5_method_9_code
def yX3_actingKind : MethodName := ⟨RX3, "actingKind", "(I)I"⟩
abbrev cX3_clear : ByteArray := prog_5_method_10_code
def yX3_clear : MethodName := ⟨RX3, "clear", "(I)V"⟩
abbrev cX3_add : ByteArray := prog_5_method_11_code
def yX3_add : MethodName := ⟨RX3, "add", "(III)V"⟩
abbrev cX3_write : ByteArray := prog_5_method_12_code
def yX3_write : MethodName := ⟨RX3, "write", "(IIII)V"⟩
abbrev cX3_move : ByteArray := prog_5_method_13_code
def yX3_move : MethodName := ⟨RX3, "move", "(III)V"⟩
abbrev cX3_setSwitch : ByteArray := prog_5_method_14_code
def yX3_setSwitch : MethodName := ⟨RX3, "setSwitch", "(IZ)V"⟩
abbrev cX3_become : ByteArray := prog_5_method_15_code
def yX3_become : MethodName := ⟨RX3, "become", "(LLaneNets$Net;)V"⟩
def RX4 : String := "LaneNets$Rows"
def TX4 : u_T := fun k => match k with
  | 0 => ("LaneNets$Rows", "columns", "[J", true)
  | _ => ("LaneNets$Rows", "all", "J", false)
def tyX4 : Nat → FieldType := fun k => match k with
  | 0 => .array .long
  | _ => .long
abbrev wsX40 : List Cond := u_ws RX4 TX4 2
theorem nmX4 : ∀ a, a < 2 → ∀ b, b < 2 → a ≠ b → (TX4 a).2.1 ≠ (TX4 b).2.1 := by decide +kernel
theorem tyX4_ok : ∀ k, k < 2 → parseFieldDescriptor (TX4 k).2.2.1 = some (tyX4 k) := by decide +kernel
abbrev cX4_init : ByteArray := prog_6_method_1_code
def yX4_init : MethodName := ⟨RX4, "<init>", "()V"⟩
abbrev cX4_blocks : ByteArray := prog_6_method_2_code
def yX4_blocks : MethodName := ⟨RX4, "blocks", "(I)I"⟩
abbrev cX4_leastOf : ByteArray := prog_6_method_3_code
def yX4_leastOf : MethodName := ⟨RX4, "leastOf", "(JI)I"⟩
abbrev cX4_start : ByteArray := prog_6_method_4_code
def yX4_start : MethodName := ⟨RX4, "start", "(II)V"⟩
abbrev cX4_firstColumn : ByteArray := prog_6_method_5_code
def yX4_firstColumn : MethodName := ⟨RX4, "firstColumn", "(II)J"⟩
abbrev cX4_changing : ByteArray := prog_6_method_6_code
def yX4_changing : MethodName := ⟨RX4, "changing", "(III)J"⟩
abbrev cX4_step : ByteArray := prog_6_method_7_code
def yX4_step : MethodName := ⟨RX4, "step", "(III)V"⟩
abbrev cX4_pass : ByteArray := prog_6_method_8_code
def yX4_pass : MethodName := ⟨RX4, "pass", "(LLaneNets$Net;I)V"⟩
abbrev cX4_falling : ByteArray := prog_6_method_9_code
def yX4_falling : MethodName := ⟨RX4, "falling", "(II)J"⟩
abbrev cX4_differing : ByteArray := prog_6_method_10_code
def yX4_differing : MethodName := ⟨RX4, "differing", "(LLaneNets$Rows;I)J"⟩
abbrev cX4_numberOf : ByteArray := prog_6_method_11_code
def yX4_numberOf : MethodName := ⟨RX4, "numberOf", "(II)I"⟩
abbrev cX4_packed : ByteArray := prog_6_method_12_code
def yX4_packed : MethodName := ⟨RX4, "packed", "(I)J"⟩
def RX5 : String := "LaneNets"
def TX5 : u_T := fun k => match k with
  | 0 => ("LaneNets", "net", "LLaneNets$Net;", true)
  | 1 => ("LaneNets", "slots", "[LLaneNets$Net;", true)
  | 2 => ("LaneNets", "history", "LLaneNets$History;", true)
  | 3 => ("LaneNets", "crates", "[LLaneNets$Crate;", true)
  | 4 => ("LaneNets", "rows", "LLaneNets$Rows;", true)
  | 5 => ("LaneNets", "otherRows", "LLaneNets$Rows;", true)
  | 6 => ("LaneNets", "completion", "LLaneNets$Completion;", true)
  | 7 => ("LaneNets", "laneNumbers", "[I", true)
  | 8 => ("LaneNets", "waiting", "[I", true)
  | 9 => ("LaneNets", "waits", "I", false)
  | _ => ("LaneNets", "findings", "I", false)
def tyX5 : Nat → FieldType := fun k => match k with
  | 0 => .object "LaneNets$Net"
  | 1 => .array (.object "LaneNets$Net")
  | 2 => .object "LaneNets$History"
  | 3 => .array (.object "LaneNets$Crate")
  | 4 => .object "LaneNets$Rows"
  | 5 => .object "LaneNets$Rows"
  | 6 => .object "LaneNets$Completion"
  | 7 => .array .int
  | 8 => .array .int
  | 9 => .int
  | _ => .int
abbrev wsX50 : List Cond := u_ws RX5 TX5 11
theorem nmX5 : ∀ a, a < 11 → ∀ b, b < 11 → a ≠ b → (TX5 a).2.1 ≠ (TX5 b).2.1 := by decide +kernel
theorem tyX5_ok : ∀ k, k < 11 → parseFieldDescriptor (TX5 k).2.2.1 = some (tyX5 k) := by decide +kernel
abbrev cX5_init : ByteArray := prog_1_method_1_code
def yX5_init : MethodName := ⟨RX5, "<init>", "()V"⟩
abbrev cX5_lanes : ByteArray := prog_1_method_2_code
def yX5_lanes : MethodName := ⟨RX5, "lanes", "(I)I"⟩
abbrev cX5_comparer : ByteArray := prog_1_method_3_code
def yX5_comparer : MethodName := ⟨RX5, "comparer", "(III)I"⟩
abbrev cX5_cut : ByteArray := prog_1_method_4_code
def yX5_cut : MethodName := ⟨RX5, "cut", "(I)I"⟩
abbrev cX5_change : ByteArray := prog_1_method_5_code
def yX5_change : MethodName := ⟨RX5, "change", "(II)I"⟩
abbrev cX5_turnSwitch : ByteArray := prog_1_method_6_code
def yX5_turnSwitch : MethodName := ⟨RX5, "turnSwitch", "(IZ)I"⟩
abbrev cX5_as : ByteArray := prog_1_method_7_code
def yX5_as : MethodName := ⟨RX5, "as", "(II)I"⟩
abbrev cX5_of : ByteArray := prog_1_method_8_code
def yX5_of : MethodName := ⟨RX5, "of", "(II)I"⟩
abbrev cX5_rounds : ByteArray := prog_1_method_9_code
def yX5_rounds : MethodName := ⟨RX5, "rounds", "()I"⟩
abbrev cX5_crate : ByteArray := prog_1_method_10_code
def yX5_crate : MethodName := ⟨RX5, "crate", "(III)I"⟩
abbrev cX5_put : ByteArray := prog_1_method_11_code
def yX5_put : MethodName := ⟨RX5, "put", "(IIJ)I"⟩
abbrev cX5_load : ByteArray := prog_1_method_12_code
def yX5_load : MethodName := ⟨RX5, "load", "(II)J"⟩
abbrev cX5_copy : ByteArray := prog_1_method_13_code
def yX5_copy : MethodName := ⟨RX5, "copy", "(IIIII)I"⟩
abbrev cX5_run : ByteArray := prog_1_method_14_code
def yX5_run : MethodName := ⟨RX5, "run", "(I)I"⟩
abbrev cX5_rises : ByteArray := prog_1_method_15_code
def yX5_rises : MethodName := ⟨RX5, "rises", "(I)I"⟩
abbrev cX5_order : ByteArray := prog_1_method_16_code
def yX5_order : MethodName := ⟨RX5, "order", "(III)I"⟩
abbrev cX5_out : ByteArray := prog_1_method_17_code
def yX5_out : MethodName := ⟨RX5, "out", "(I)I"⟩
abbrev cX5_sorts : ByteArray := prog_1_method_18_code
def yX5_sorts : MethodName := ⟨RX5, "sorts", "()I"⟩
abbrev cX5_fails : ByteArray := prog_1_method_19_code
def yX5_fails : MethodName := ⟨RX5, "fails", "(Z)I"⟩
abbrev cX5_merges : ByteArray := prog_1_method_20_code
def yX5_merges : MethodName := ⟨RX5, "merges", "(I)I"⟩
abbrev cX5_idle : ByteArray := prog_1_method_21_code
def yX5_idle : MethodName := ⟨RX5, "idle", "(I)I"⟩
abbrev cX5_drop : ByteArray := prog_1_method_22_code
def yX5_drop : MethodName := ⟨RX5, "drop", "()I"⟩
abbrev cX5_turn : ByteArray := prog_1_method_23_code
def yX5_turn : MethodName := ⟨RX5, "turn", "()I"⟩
abbrev cX5_mirror : ByteArray := prog_1_method_24_code
def yX5_mirror : MethodName := ⟨RX5, "mirror", "()I"⟩
abbrev cX5_missing : ByteArray := prog_1_method_25_code
def yX5_missing : MethodName := ⟨RX5, "missing", "()I"⟩
abbrev cX5_next : ByteArray := prog_1_method_26_code
def yX5_next : MethodName := ⟨RX5, "next", "(I)I"⟩
abbrev cX5_bears : ByteArray := prog_1_method_27_code
def yX5_bears : MethodName := ⟨RX5, "bears", "()I"⟩
abbrev cX5_weak : ByteArray := prog_1_method_28_code
def yX5_weak : MethodName := ⟨RX5, "weak", "(I)I"⟩
abbrev cX5_keep : ByteArray := prog_1_method_29_code
def yX5_keep : MethodName := ⟨RX5, "keep", "(I)I"⟩
abbrev cX5_bring : ByteArray := prog_1_method_30_code
def yX5_bring : MethodName := ⟨RX5, "bring", "(I)I"⟩
abbrev cX5_follow : ByteArray := prog_1_method_31_code
def yX5_follow : MethodName := ⟨RX5, "follow", "(I)I"⟩
abbrev cX5_unlike : ByteArray := prog_1_method_32_code
def yX5_unlike : MethodName := ⟨RX5, "unlike", "(I)I"⟩
abbrev cX5_tell : ByteArray := prog_1_method_33_code
def yX5_tell : MethodName := ⟨RX5, "tell", "(I)I"⟩
abbrev cX5_would : ByteArray := prog_1_method_34_code
def yX5_would : MethodName := ⟨RX5, "would", "()I"⟩
abbrev cX5_undo : ByteArray := prog_1_method_35_code
def yX5_undo : MethodName := ⟨RX5, "undo", "()I"⟩
abbrev cX5_told : ByteArray := prog_1_method_36_code
def yX5_told : MethodName := ⟨RX5, "told", "(I)I"⟩
abbrev cX5_finding : ByteArray := prog_1_method_37_code
def yX5_finding : MethodName := ⟨RX5, "finding", "(I)I"⟩
abbrev cX5_toldOrFinding : ByteArray := prog_1_method_38_code
def yX5_toldOrFinding : MethodName := ⟨RX5, "toldOrFinding", "(I)I"⟩
abbrev cX5_findingOfCrate : ByteArray := prog_1_method_39_code
def yX5_findingOfCrate : MethodName := ⟨RX5, "findingOfCrate", "(I)I"⟩
abbrev cX5_findingOfLoad : ByteArray := prog_1_method_40_code
def yX5_findingOfLoad : MethodName := ⟨RX5, "findingOfLoad", "(II)I"⟩
abbrev cX5_findingOfSlot : ByteArray := prog_1_method_41_code
def yX5_findingOfSlot : MethodName := ⟨RX5, "findingOfSlot", "(I)I"⟩
abbrev cX5_findingOfFit : ByteArray := prog_1_method_42_code
def yX5_findingOfFit : MethodName := ⟨RX5, "findingOfFit", "(I)I"⟩
abbrev cX5_isKind : ByteArray := prog_1_method_43_code
def yX5_isKind : MethodName := ⟨RX5, "isKind", "(I)Z"⟩
abbrev cX5_isCrate : ByteArray := prog_1_method_44_code
def yX5_isCrate : MethodName := ⟨RX5, "isCrate", "(I)Z"⟩
abbrev cX5_isSlot : ByteArray := prog_1_method_45_code
def yX5_isSlot : MethodName := ⟨RX5, "isSlot", "(I)Z"⟩
abbrev cX5_isIn : ByteArray := prog_1_method_46_code
def yX5_isIn : MethodName := ⟨RX5, "isIn", "(JI)Z"⟩
abbrev cX5_isUnder : ByteArray := prog_1_method_47_code
def yX5_isUnder : MethodName := ⟨RX5, "isUnder", "(II)Z"⟩
abbrev cX5_changesPlaces : ByteArray := prog_1_method_48_code
def yX5_changesPlaces : MethodName := ⟨RX5, "changesPlaces", "(III)Z"⟩
abbrev cX5_areLanePairs : ByteArray := prog_1_method_49_code
def yX5_areLanePairs : MethodName := ⟨RX5, "areLanePairs", "(I)Z"⟩
abbrev cX5_lastRound : ByteArray := prog_1_method_50_code
def yX5_lastRound : MethodName := ⟨RX5, "lastRound", "(I)I"⟩
abbrev cX5_failingRows : ByteArray := prog_1_method_51_code
def yX5_failingRows : MethodName := ⟨RX5, "failingRows", "(II)J"⟩
abbrev cX5_leastFailing : ByteArray := prog_1_method_52_code
def yX5_leastFailing : MethodName := ⟨RX5, "leastFailing", "(I)I"⟩
abbrev cX5_busyComparers : ByteArray := prog_1_method_53_code
def yX5_busyComparers : MethodName := ⟨RX5, "busyComparers", "()J"⟩
abbrev cX5_findCompletion : ByteArray := prog_1_method_54_code
def yX5_findCompletion : MethodName := ⟨RX5, "findCompletion", "()V"⟩
def RX6 : String := "LaneNetsModel"
def TX6 : u_T := fun k => match k with
  | 0 => ("LaneNetsModel", "lanes", "I", false)
  | 1 => ("LaneNetsModel", "many", "I", false)
  | 2 => ("LaneNetsModel", "kinds", "[I", true)
  | 3 => ("LaneNetsModel", "low", "[I", true)
  | 4 => ("LaneNetsModel", "high", "[I", true)
  | 5 => ("LaneNetsModel", "isOn", "[Z", true)
  | 6 => ("LaneNetsModel", "thenLanes", "[I", true)
  | 7 => ("LaneNetsModel", "thenMany", "[I", true)
  | 8 => ("LaneNetsModel", "thenKinds", "[I", true)
  | 9 => ("LaneNetsModel", "thenLow", "[I", true)
  | 10 => ("LaneNetsModel", "thenHigh", "[I", true)
  | 11 => ("LaneNetsModel", "thenOn", "[Z", true)
  | 12 => ("LaneNetsModel", "kept", "I", false)
  | 13 => ("LaneNetsModel", "crateKind", "[I", true)
  | 14 => ("LaneNetsModel", "crateSize", "[I", true)
  | 15 => ("LaneNetsModel", "loads", "[J", true)
  | 16 => ("LaneNetsModel", "waits", "[I", true)
  | 17 => ("LaneNetsModel", "waiting", "I", false)
  | 18 => ("LaneNetsModel", "findings", "I", false)
  | 19 => ("LaneNetsModel", "roundRow", "[I", true)
  | 20 => ("LaneNetsModel", "carried", "[J", true)
  | 21 => ("LaneNetsModel", "goesOut", "[Z", true)
  | 22 => ("LaneNetsModel", "to", "[I", true)
  | 23 => ("LaneNetsModel", "trial", "[I", true)
  | _ => ("LaneNetsModel", "outs", "[I", true)
def tyX6 : Nat → FieldType := fun k => match k with
  | 0 => .int
  | 1 => .int
  | 2 => .array .int
  | 3 => .array .int
  | 4 => .array .int
  | 5 => .array .boolean
  | 6 => .array .int
  | 7 => .array .int
  | 8 => .array .int
  | 9 => .array .int
  | 10 => .array .int
  | 11 => .array .boolean
  | 12 => .int
  | 13 => .array .int
  | 14 => .array .int
  | 15 => .array .long
  | 16 => .array .int
  | 17 => .int
  | 18 => .int
  | 19 => .array .int
  | 20 => .array .long
  | 21 => .array .boolean
  | 22 => .array .int
  | 23 => .array .int
  | _ => .array .int
abbrev wsX60 : List Cond := u_ws RX6 TX6 25
theorem nmX6 : ∀ a, a < 25 → ∀ b, b < 25 → a ≠ b → (TX6 a).2.1 ≠ (TX6 b).2.1 := by decide +kernel
theorem tyX6_ok : ∀ k, k < 25 → parseFieldDescriptor (TX6 k).2.2.1 = some (tyX6 k) := by decide +kernel
abbrev cX6_init : ByteArray := prog_8_method_1_code
def yX6_init : MethodName := ⟨RX6, "<init>", "()V"⟩
abbrev cX6_in : ByteArray := prog_8_method_3_code
def yX6_in : MethodName := ⟨RX6, "in", "(III)Z"⟩
abbrev cX6_found : ByteArray := prog_8_method_4_code
def yX6_found : MethodName := ⟨RX6, "found", "(I)I"⟩
abbrev cX6_isComparer : ByteArray := prog_8_method_5_code
def yX6_isComparer : MethodName := ⟨RX6, "isComparer", "(I)Z"⟩
abbrev cX6_isLane : ByteArray := prog_8_method_6_code
def yX6_isLane : MethodName := ⟨RX6, "isLane", "(I)Z"⟩
abbrev cX6_store : ByteArray := prog_8_method_7_code
def yX6_store : MethodName := ⟨RX6, "store", "(I)V"⟩
abbrev cX6_restore : ByteArray := prog_8_method_8_code
def yX6_restore : MethodName := ⟨RX6, "restore", "(I)V"⟩
abbrev cX6_begins : ByteArray := prog_8_method_9_code
def yX6_begins : MethodName := ⟨RX6, "begins", "()V"⟩
abbrev cX6_undo : ByteArray := prog_8_method_10_code
def yX6_undo : MethodName := ⟨RX6, "undo", "()I"⟩
abbrev cX6_lanes : ByteArray := prog_8_method_11_code
def yX6_lanes : MethodName := ⟨RX6, "lanes", "(I)I"⟩
abbrev cX6_add : ByteArray := prog_8_method_12_code
def yX6_add : MethodName := ⟨RX6, "add", "(III)V"⟩
abbrev cX6_comparer : ByteArray := prog_8_method_13_code
def yX6_comparer : MethodName := ⟨RX6, "comparer", "(III)I"⟩
abbrev cX6_cut : ByteArray := prog_8_method_14_code
def yX6_cut : MethodName := ⟨RX6, "cut", "(I)I"⟩
abbrev cX6_change : ByteArray := prog_8_method_15_code
def yX6_change : MethodName := ⟨RX6, "change", "(II)I"⟩
abbrev cX6_turnSwitch : ByteArray := prog_8_method_16_code
def yX6_turnSwitch : MethodName := ⟨RX6, "turnSwitch", "(IZ)I"⟩
abbrev cX6_above : ByteArray := prog_8_method_17_code
def yX6_above : MethodName := ⟨RX6, "above", "(I)I"⟩
abbrev cX6_as : ByteArray := prog_8_method_18_code
def yX6_as : MethodName := ⟨RX6, "as", "(II)I"⟩
abbrev cX6_roundOf : ByteArray := prog_8_method_19_code
def yX6_roundOf : MethodName := ⟨RX6, "roundOf", "(I)I"⟩
abbrev cX6_of : ByteArray := prog_8_method_20_code
def yX6_of : MethodName := ⟨RX6, "of", "(II)I"⟩
abbrev cX6_rounds : ByteArray := prog_8_method_21_code
def yX6_rounds : MethodName := ⟨RX6, "rounds", "()I"⟩
abbrev cX6_isCrate : ByteArray := prog_8_method_22_code
def yX6_isCrate : MethodName := ⟨RX6, "isCrate", "(I)Z"⟩
abbrev cX6_crate : ByteArray := prog_8_method_23_code
def yX6_crate : MethodName := ⟨RX6, "crate", "(III)I"⟩
abbrev cX6_lacks : ByteArray := prog_8_method_24_code
def yX6_lacks : MethodName := ⟨RX6, "lacks", "(II)I"⟩
abbrev cX6_narrow : ByteArray := prog_8_method_25_code
def yX6_narrow : MethodName := ⟨RX6, "narrow", "(IJ)J"⟩
abbrev cX6_put : ByteArray := prog_8_method_26_code
def yX6_put : MethodName := ⟨RX6, "put", "(IIJ)I"⟩
abbrev cX6_load : ByteArray := prog_8_method_27_code
def yX6_load : MethodName := ⟨RX6, "load", "(II)J"⟩
abbrev cX6_copy : ByteArray := prog_8_method_28_code
def yX6_copy : MethodName := ⟨RX6, "copy", "(IIIII)I"⟩
abbrev cX6_key : ByteArray := prog_8_method_29_code
def yX6_key : MethodName := ⟨RX6, "key", "(II)J"⟩
abbrev cX6_changes : ByteArray := prog_8_method_30_code
def yX6_changes : MethodName := ⟨RX6, "changes", "(II)Z"⟩
abbrev cX6_against : ByteArray := prog_8_method_31_code
def yX6_against : MethodName := ⟨RX6, "against", "(III)I"⟩
abbrev cX6_run : ByteArray := prog_8_method_32_code
def yX6_run : MethodName := ⟨RX6, "run", "(I)I"⟩
abbrev cX6_rises : ByteArray := prog_8_method_33_code
def yX6_rises : MethodName := ⟨RX6, "rises", "(I)I"⟩
abbrev cX6_order : ByteArray := prog_8_method_34_code
def yX6_order : MethodName := ⟨RX6, "order", "(III)I"⟩
abbrev cX6_at : ByteArray := prog_8_method_35_code
def yX6_at : MethodName := ⟨RX6, "at", "(II)I"⟩
abbrev cX6_goes : ByteArray := prog_8_method_36_code
def yX6_goes : MethodName := ⟨RX6, "goes", "(III)I"⟩
abbrev cX6_isRising : ByteArray := prog_8_method_37_code
def yX6_isRising : MethodName := ⟨RX6, "isRising", "(I)Z"⟩
abbrev cX6_rows : ByteArray := prog_8_method_38_code
def yX6_rows : MethodName := ⟨RX6, "rows", "()I"⟩
abbrev cX6_failing : ByteArray := prog_8_method_39_code
def yX6_failing : MethodName := ⟨RX6, "failing", "(I)I"⟩
abbrev cX6_out : ByteArray := prog_8_method_40_code
def yX6_out : MethodName := ⟨RX6, "out", "(I)I"⟩
abbrev cX6_sorts : ByteArray := prog_8_method_41_code
def yX6_sorts : MethodName := ⟨RX6, "sorts", "()I"⟩
abbrev cX6_fails : ByteArray := prog_8_method_42_code
def yX6_fails : MethodName := ⟨RX6, "fails", "(Z)I"⟩
abbrev cX6_merges : ByteArray := prog_8_method_43_code
def yX6_merges : MethodName := ⟨RX6, "merges", "(I)I"⟩
abbrev cX6_isIdle : ByteArray := prog_8_method_44_code
def yX6_isIdle : MethodName := ⟨RX6, "isIdle", "(I)Z"⟩
abbrev cX6_idle : ByteArray := prog_8_method_45_code
def yX6_idle : MethodName := ⟨RX6, "idle", "(I)I"⟩
abbrev cX6_drop : ByteArray := prog_8_method_46_code
def yX6_drop : MethodName := ⟨RX6, "drop", "()I"⟩
abbrev cX6_turn : ByteArray := prog_8_method_47_code
def yX6_turn : MethodName := ⟨RX6, "turn", "()I"⟩
abbrev cX6_mirror : ByteArray := prog_8_method_48_code
def yX6_mirror : MethodName := ⟨RX6, "mirror", "()I"⟩
abbrev cX6_pair : ByteArray := prog_8_method_49_code
def yX6_pair : MethodName := ⟨RX6, "pair", "(I)I"⟩
abbrev cX6_does : ByteArray := prog_8_method_50_code
def yX6_does : MethodName := ⟨RX6, "does", "(I)Z"⟩
abbrev cX6_shortest : ByteArray := prog_8_method_51_code
def yX6_shortest : MethodName := ⟨RX6, "shortest", "()I"⟩
abbrev cX6_missing : ByteArray := prog_8_method_52_code
def yX6_missing : MethodName := ⟨RX6, "missing", "()I"⟩
abbrev cX6_next : ByteArray := prog_8_method_53_code
def yX6_next : MethodName := ⟨RX6, "next", "(I)I"⟩
abbrev cX6_bears : ByteArray := prog_8_method_54_code
def yX6_bears : MethodName := ⟨RX6, "bears", "()I"⟩
abbrev cX6_weak : ByteArray := prog_8_method_55_code
def yX6_weak : MethodName := ⟨RX6, "weak", "(I)I"⟩
abbrev cX6_isSlot : ByteArray := prog_8_method_56_code
def yX6_isSlot : MethodName := ⟨RX6, "isSlot", "(I)Z"⟩
abbrev cX6_keep : ByteArray := prog_8_method_57_code
def yX6_keep : MethodName := ⟨RX6, "keep", "(I)I"⟩
abbrev cX6_bring : ByteArray := prog_8_method_58_code
def yX6_bring : MethodName := ⟨RX6, "bring", "(I)I"⟩
abbrev cX6_follow : ByteArray := prog_8_method_59_code
def yX6_follow : MethodName := ⟨RX6, "follow", "(I)I"⟩
abbrev cX6_unlike : ByteArray := prog_8_method_60_code
def yX6_unlike : MethodName := ⟨RX6, "unlike", "(I)I"⟩
abbrev cX6_tell : ByteArray := prog_8_method_61_code
def yX6_tell : MethodName := ⟨RX6, "tell", "(I)I"⟩
abbrev cX6_would : ByteArray := prog_8_method_62_code
def yX6_would : MethodName := ⟨RX6, "would", "()I"⟩
abbrev cX6_told : ByteArray := prog_8_method_63_code
def yX6_told : MethodName := ⟨RX6, "told", "(I)I"⟩
def RJ13 : String := "java/lang/Long"
def TJ13 : u_T := fun k => match k with
  | _ => ("", "", "", false)
def tyJ13 : Nat → FieldType := fun k => match k with
  | _ => .int
abbrev wsJ130 : List Cond := u_ws RJ13 TJ13 0
theorem nmJ13 : ∀ a, a < 0 → ∀ b, b < 0 → a ≠ b → (TJ13 a).2.1 ≠ (TJ13 b).2.1 := by decide +kernel
theorem tyJ13_ok : ∀ k, k < 0 → parseFieldDescriptor (TJ13 k).2.2.1 = some (tyJ13 k) := by decide +kernel
abbrev cJ13_compare_74951 : ByteArray := prog_9_method_42_code
def yJ13_compare_74951 : MethodName := ⟨RJ13, "compare", "(JJ)I"⟩
abbrev cJ13_bitCount_95d88 : ByteArray := prog_9_method_50_code
def yJ13_bitCount_95d88 : MethodName := ⟨RJ13, "bitCount", "(J)I"⟩
def RJ9 : String := "java/lang/Math"
def TJ9 : u_T := fun k => match k with
  | _ => ("", "", "", false)
def tyJ9 : Nat → FieldType := fun k => match k with
  | _ => .int
abbrev wsJ90 : List Cond := u_ws RJ9 TJ9 0
theorem nmJ9 : ∀ a, a < 0 → ∀ b, b < 0 → a ≠ b → (TJ9 a).2.1 ≠ (TJ9 b).2.1 := by decide +kernel
theorem tyJ9_ok : ∀ k, k < 0 → parseFieldDescriptor (TJ9 k).2.2.1 = some (tyJ9 k) := by decide +kernel
abbrev cJ9_max_7cf53 : ByteArray := prog_10_method_65_code
def yJ9_max_7cf53 : MethodName := ⟨RJ9, "max", "(II)I"⟩
abbrev cJ9_min_7cf53 : ByteArray := prog_10_method_69_code
def yJ9_min_7cf53 : MethodName := ⟨RJ9, "min", "(II)I"⟩
def RJ10 : String := "java/lang/System"
def TJ10 : u_T := fun k => match k with
  | _ => ("", "", "", false)
def tyJ10 : Nat → FieldType := fun k => match k with
  | _ => .int
abbrev wsJ100 : List Cond := u_ws RJ10 TJ10 0
theorem nmJ10 : ∀ a, a < 0 → ∀ b, b < 0 → a ≠ b → (TJ10 a).2.1 ≠ (TJ10 b).2.1 := by decide +kernel
theorem tyJ10_ok : ∀ k, k < 0 → parseFieldDescriptor (TJ10 k).2.2.1 = some (tyJ10 k) := by decide +kernel
def RL : String := "LaneNetsLaw"
abbrev cL_law : ByteArray := code
def yL_law : MethodName := ⟨RL, "law", "([I)Z"⟩
def wsX0_init : List Cond := .code yX0_init cX0_init 1 none :: ([.methodLink RX0 3 objectInit, .instanceMethod objectInit, .code objectInit ⟨#[0xb1]⟩ 1 none, .arrayClass .int, .fieldLink RX0 9 "LaneNets$Completion" "pairs" "[I", .fieldLink RX0 15 "LaneNets$Completion" "fewest" "I", .fieldLink RX0 19 "LaneNets$Completion" "knownLanes" "I", .fieldLink RX0 22 "LaneNets$Completion" "knownColumns" "J"] ++ wsX00)
def wsX0_column : List Cond := .code yX0_column cX0_column 3 (some .long) :: ([.constantLong RX0 38 (65535)])
def wsX0_areRising : List Cond := .code yX0_areRising cX0_areRising 4 (some .boolean) :: ([.constantLong RX0 44 (-1), .methodLink RX0 40 yX0_column, .static yX0_column, .initialized RX0, .code yX0_column cX0_column 3 (some .long), .constantLong RX0 38 (65535)])
def wsX0_compared : List Cond := .code yX0_compared cX0_compared 6 (some .long) :: ([.constantLong RX0 44 (-1), .methodLink RX0 40 yX0_column, .static yX0_column, .initialized RX0, .code yX0_column cX0_column 3 (some .long), .constantLong RX0 38 (65535)])
def wsX0_completes : List Cond := .code yX0_completes cX0_completes 10 (some .boolean) :: ([.methodLink RX0 30 yX0_areRising, .static yX0_areRising, .initialized RX0, .code yX0_areRising cX0_areRising 4 (some .boolean), .constantLong RX0 44 (-1), .methodLink RX0 40 yX0_column, .static yX0_column, .code yX0_column cX0_column 3 (some .long), .constantLong RX0 38 (65535), .methodLink RX0 34 yX0_compared, .static yX0_compared, .code yX0_compared cX0_compared 6 (some .long), .methodLink RX0 26 yX0_completes, .static yX0_completes])
def wsX0_find : List Cond := .code yX0_find cX0_find 6 none :: ([.fieldLink RX0 19 "LaneNets$Completion" "knownLanes" "I", .fieldLink RX0 22 "LaneNets$Completion" "knownColumns" "J", .fieldLink RX0 9 "LaneNets$Completion" "pairs" "[I", .fieldLink RX0 15 "LaneNets$Completion" "fewest" "I", .methodLink RX0 26 yX0_completes, .static yX0_completes, .initialized RX0, .code yX0_completes cX0_completes 10 (some .boolean), .methodLink RX0 30 yX0_areRising, .static yX0_areRising, .code yX0_areRising cX0_areRising 4 (some .boolean), .constantLong RX0 44 (-1), .methodLink RX0 40 yX0_column, .static yX0_column, .code yX0_column cX0_column 3 (some .long), .constantLong RX0 38 (65535), .methodLink RX0 34 yX0_compared, .static yX0_compared, .code yX0_compared cX0_compared 6 (some .long)] ++ wsX00)
def wsX1_init : List Cond := .code yX1_init cX1_init 1 none :: ([.methodLink RX1 3 objectInit, .instanceMethod objectInit, .code objectInit ⟨#[0xb1]⟩ 1 none, .fieldLink RX1 9 "LaneNets$Crate" "kind" "I", .fieldLink RX1 15 "LaneNets$Crate" "count" "I", .arrayClass .long, .fieldLink RX1 18 "LaneNets$Crate" "loads" "[J"] ++ wsX10)
def wsX1_isMissing : List Cond := .code yX1_isMissing cX1_isMissing 1 (some .boolean) :: ([.fieldLink RX1 9 "LaneNets$Crate" "kind" "I"] ++ wsX10)
def wsX1_hasPart : List Cond := .code yX1_hasPart cX1_hasPart 3 (some .boolean) :: ([.fieldLink RX1 15 "LaneNets$Crate" "count" "I"] ++ wsX10)
def wsX1_renew : List Cond := .code yX1_renew cX1_renew 4 none :: ([.fieldLink RX1 9 "LaneNets$Crate" "kind" "I", .fieldLink RX1 15 "LaneNets$Crate" "count" "I", .fieldLink RX1 18 "LaneNets$Crate" "loads" "[J"] ++ wsX10)
def wsX1_fitted : List Cond := .code yX1_fitted cX1_fitted 3 (some .long) :: ([.constant RX1 26 (2147483647), .constant RX1 27 (2139095040), .constantLong RX1 28 (2143289344), .constantLong RX1 30 (9223372036854775807), .constantLong RX1 32 (9218868437227405312), .constantLong RX1 34 (9221120237041090560)])
def wsX1_write : List Cond := .code yX1_write cX1_write 4 none :: ([.fieldLink RX1 18 "LaneNets$Crate" "loads" "[J", .fieldLink RX1 9 "LaneNets$Crate" "kind" "I", .methodLink RX1 22 yX1_fitted, .static yX1_fitted, .initialized RX1, .code yX1_fitted cX1_fitted 3 (some .long), .constant RX1 26 (2147483647), .constant RX1 27 (2139095040), .constantLong RX1 28 (2143289344), .constantLong RX1 30 (9223372036854775807), .constantLong RX1 32 (9218868437227405312), .constantLong RX1 34 (9221120237041090560)] ++ wsX10)
def wsX1_rank : List Cond := .code yX1_rank cX1_rank 4 (some .long) :: ([.fieldLink RX1 9 "LaneNets$Crate" "kind" "I", .constantLong RX1 30 (9223372036854775807)] ++ wsX10)
def wsJ13_compare_74951 : List Cond := .code yJ13_compare_74951 cJ13_compare_74951 4 (some .int) :: ([])
def wsX1_compare : List Cond := .code yX1_compare cX1_compare 3 (some .int) :: ([.fieldLink RX1 18 "LaneNets$Crate" "loads" "[J", .methodLink RX1 36 yX1_rank, .instanceMethod yX1_rank, .selects RX1 yX1_rank yX1_rank, .initialized RX1, .code yX1_rank cX1_rank 4 (some .long), .fieldLink RX1 9 "LaneNets$Crate" "kind" "I", .constantLong RX1 30 (9223372036854775807), .methodLink RX1 40 yJ13_compare_74951, .static yJ13_compare_74951, .initialized RJ13, .code yJ13_compare_74951 cJ13_compare_74951 4 (some .int)] ++ wsX10)
def wsX1_mustChange : List Cond := .code yX1_mustChange cX1_mustChange 4 (some .boolean) :: ([.methodLink RX1 46 yX1_compare, .instanceMethod yX1_compare, .selects RX1 yX1_compare yX1_compare, .initialized RX1, .code yX1_compare cX1_compare 3 (some .int), .fieldLink RX1 18 "LaneNets$Crate" "loads" "[J", .methodLink RX1 36 yX1_rank, .instanceMethod yX1_rank, .selects RX1 yX1_rank yX1_rank, .code yX1_rank cX1_rank 4 (some .long), .fieldLink RX1 9 "LaneNets$Crate" "kind" "I", .constantLong RX1 30 (9223372036854775807), .methodLink RX1 40 yJ13_compare_74951, .static yJ13_compare_74951, .initialized RJ13, .code yJ13_compare_74951 cJ13_compare_74951 4 (some .int)] ++ wsX10)
def wsX1_exchange : List Cond := .code yX1_exchange cX1_exchange 5 none :: ([.fieldLink RX1 18 "LaneNets$Crate" "loads" "[J"] ++ wsX10)
def wsX3_init : List Cond := .code yX3_init cX3_init 1 none :: ([.methodLink RX3 3 objectInit, .instanceMethod objectInit, .code objectInit ⟨#[0xb1]⟩ 1 none, .fieldLink RX3 9 "LaneNets$Net" "lanes" "I", .fieldLink RX3 15 "LaneNets$Net" "count" "I", .arrayClass .int, .fieldLink RX3 18 "LaneNets$Net" "comparers" "[I"] ++ wsX30)
def wsX2_init : List Cond := .code yX2_init cX2_init 2 none :: ([.methodLink RX2 3 objectInit, .instanceMethod objectInit, .code objectInit ⟨#[0xb1]⟩ 1 none, .classLink RX2 9 RX3, .fieldLink RX2 11 "LaneNets$History" "nets" "[LLaneNets$Net;", .fieldLink RX2 17 "LaneNets$History" "free" "I", .fieldLink RX2 21 "LaneNets$History" "held" "I", .instantiable RX3 3, .initialized RX3, .instanceMethod yX3_init, .code yX3_init cX3_init 1 none, .methodLink RX3 3 objectInit, .fieldLink RX3 9 "LaneNets$Net" "lanes" "I", .fieldLink RX3 15 "LaneNets$Net" "count" "I", .arrayClass .int, .fieldLink RX3 18 "LaneNets$Net" "comparers" "[I"] ++ wsX20 ++ wsX30)
def wsX3_become : List Cond := .code yX3_become cX3_become 2 none :: ([.fieldLink RX3 9 "LaneNets$Net" "lanes" "I", .fieldLink RX3 15 "LaneNets$Net" "count" "I", .fieldLink RX3 18 "LaneNets$Net" "comparers" "[I", .methodLink RX3 33 arraycopyName, .native arraycopyName, .static arraycopyName, .initialized "java/lang/System"] ++ wsX30)
def wsX2_remember : List Cond := .code yX2_remember cX2_remember 2 none :: ([.fieldLink RX2 11 "LaneNets$History" "nets" "[LLaneNets$Net;", .fieldLink RX2 17 "LaneNets$History" "free" "I", .fieldLink RX2 21 "LaneNets$History" "held" "I", .methodLink RX2 29 Lib.Math.min.name, .static Lib.Math.min.name, .initialized "java/lang/Math", .code Lib.Math.min.name Lib.Math.min.code 2 (some .int), .methodLink RX2 25 yX3_become, .instanceMethod yX3_become, .selects RX3 yX3_become yX3_become, .initialized RX3, .code yX3_become cX3_become 2 none, .fieldLink RX3 9 "LaneNets$Net" "lanes" "I", .fieldLink RX3 15 "LaneNets$Net" "count" "I", .fieldLink RX3 18 "LaneNets$Net" "comparers" "[I", .methodLink RX3 33 arraycopyName, .native arraycopyName, .static arraycopyName, .initialized "java/lang/System"] ++ wsX20 ++ wsX30)
def wsX2_giveBack : List Cond := .code yX2_giveBack cX2_giveBack 2 none :: ([.fieldLink RX2 21 "LaneNets$History" "held" "I", .fieldLink RX2 17 "LaneNets$History" "free" "I", .fieldLink RX2 11 "LaneNets$History" "nets" "[LLaneNets$Net;", .methodLink RX2 25 yX3_become, .instanceMethod yX3_become, .selects RX3 yX3_become yX3_become, .initialized RX3, .code yX3_become cX3_become 2 none, .fieldLink RX3 9 "LaneNets$Net" "lanes" "I", .fieldLink RX3 15 "LaneNets$Net" "count" "I", .fieldLink RX3 18 "LaneNets$Net" "comparers" "[I", .methodLink RX3 33 arraycopyName, .native arraycopyName, .static arraycopyName, .initialized "java/lang/System"] ++ wsX20 ++ wsX30)
def wsX3_isNone : List Cond := .code yX3_isNone cX3_isNone 1 (some .boolean) :: ([.fieldLink RX3 9 "LaneNets$Net" "lanes" "I"] ++ wsX30)
def wsX3_has : List Cond := .code yX3_has cX3_has 2 (some .boolean) :: ([.fieldLink RX3 15 "LaneNets$Net" "count" "I"] ++ wsX30)
def wsX3_hasLane : List Cond := .code yX3_hasLane cX3_hasLane 2 (some .boolean) :: ([.fieldLink RX3 9 "LaneNets$Net" "lanes" "I"] ++ wsX30)
def wsX3_kind : List Cond := .code yX3_kind cX3_kind 2 (some .int) :: ([.fieldLink RX3 18 "LaneNets$Net" "comparers" "[I"] ++ wsX30)
def wsX3_low : List Cond := .code yX3_low cX3_low 2 (some .int) :: ([.fieldLink RX3 18 "LaneNets$Net" "comparers" "[I"] ++ wsX30)
def wsX3_high : List Cond := .code yX3_high cX3_high 2 (some .int) :: ([.fieldLink RX3 18 "LaneNets$Net" "comparers" "[I"] ++ wsX30)
def wsX3_switchOf : List Cond := .code yX3_switchOf cX3_switchOf 2 (some .int) :: ([.fieldLink RX3 18 "LaneNets$Net" "comparers" "[I"] ++ wsX30)
def wsX3_actingKind : List Cond := .code yX3_actingKind cX3_actingKind 3 (some .int) :: ([.methodLink RX3 22 yX3_kind, .instanceMethod yX3_kind, .selects RX3 yX3_kind yX3_kind, .initialized RX3, .code yX3_kind cX3_kind 2 (some .int), .fieldLink RX3 18 "LaneNets$Net" "comparers" "[I", .methodLink RX3 26 yX3_switchOf, .instanceMethod yX3_switchOf, .selects RX3 yX3_switchOf yX3_switchOf, .code yX3_switchOf cX3_switchOf 2 (some .int)] ++ wsX30)
def wsX3_clear : List Cond := .code yX3_clear cX3_clear 2 none :: ([.fieldLink RX3 9 "LaneNets$Net" "lanes" "I", .fieldLink RX3 15 "LaneNets$Net" "count" "I"] ++ wsX30)
def wsX3_write : List Cond := .code yX3_write cX3_write 6 none :: ([.fieldLink RX3 18 "LaneNets$Net" "comparers" "[I"] ++ wsX30)
def wsX3_add : List Cond := .code yX3_add cX3_add 4 none :: ([.fieldLink RX3 15 "LaneNets$Net" "count" "I", .methodLink RX3 29 yX3_write, .instanceMethod yX3_write, .selects RX3 yX3_write yX3_write, .initialized RX3, .code yX3_write cX3_write 6 none, .fieldLink RX3 18 "LaneNets$Net" "comparers" "[I"] ++ wsX30)
def wsX3_move : List Cond := .code yX3_move cX3_move 5 none :: ([.fieldLink RX3 18 "LaneNets$Net" "comparers" "[I", .methodLink RX3 22 yX3_kind, .instanceMethod yX3_kind, .selects RX3 yX3_kind yX3_kind, .initialized RX3, .code yX3_kind cX3_kind 2 (some .int)] ++ wsX30)
def wsX3_setSwitch : List Cond := .code yX3_setSwitch cX3_setSwitch 3 none :: ([.fieldLink RX3 18 "LaneNets$Net" "comparers" "[I"] ++ wsX30)
def wsX4_init : List Cond := .code yX4_init cX4_init 1 none :: ([.methodLink RX4 3 objectInit, .instanceMethod objectInit, .code objectInit ⟨#[0xb1]⟩ 1 none, .arrayClass .long, .fieldLink RX4 9 "LaneNets$Rows" "columns" "[J", .fieldLink RX4 15 "LaneNets$Rows" "all" "J"] ++ wsX40)
def wsX4_blocks : List Cond := .code yX4_blocks cX4_blocks 1 (some .int) :: ([])
def wsJ13_bitCount_95d88 : List Cond := .code yJ13_bitCount_95d88 cJ13_bitCount_95d88 2 (some .int) :: ([.constantLong RJ13 314 (6148914691236517205), .constantLong RJ13 316 (3689348814741910323), .constantLong RJ13 318 (1085102592571150095)])
def wsX4_leastOf : List Cond := .code yX4_leastOf cX4_leastOf 3 (some .int) :: ([.methodLink RX4 19 yJ13_bitCount_95d88, .static yJ13_bitCount_95d88, .initialized RJ13, .code yJ13_bitCount_95d88 cJ13_bitCount_95d88 2 (some .int), .constantLong RJ13 314 (6148914691236517205), .constantLong RJ13 316 (3689348814741910323), .constantLong RJ13 318 (1085102592571150095)])
def wsX4_firstColumn : List Cond := .code yX4_firstColumn cX4_firstColumn 2 (some .long) :: ([.fieldLink RX4 31 "LaneNets$Rows" "FIRST_COLUMNS" "[J", .constantLong RX4 25 (-1)])
def wsX4_start : List Cond := .code yX4_start cX4_start 4 none :: ([.constantLong RX4 25 (-1), .fieldLink RX4 15 "LaneNets$Rows" "all" "J", .fieldLink RX4 9 "LaneNets$Rows" "columns" "[J", .methodLink RX4 27 yX4_firstColumn, .static yX4_firstColumn, .initialized RX4, .code yX4_firstColumn cX4_firstColumn 2 (some .long), .fieldLink RX4 31 "LaneNets$Rows" "FIRST_COLUMNS" "[J"] ++ wsX40)
def wsX4_changing : List Cond := .code yX4_changing cX4_changing 4 (some .long) :: ([.fieldLink RX4 9 "LaneNets$Rows" "columns" "[J", .constantLong RX4 25 (-1), .fieldLink RX4 15 "LaneNets$Rows" "all" "J"] ++ wsX40)
def wsX4_step : List Cond := .code yX4_step cX4_step 6 none :: ([.fieldLink RX4 9 "LaneNets$Rows" "columns" "[J", .methodLink RX4 34 yX4_changing, .instanceMethod yX4_changing, .selects RX4 yX4_changing yX4_changing, .initialized RX4, .code yX4_changing cX4_changing 4 (some .long), .constantLong RX4 25 (-1), .fieldLink RX4 15 "LaneNets$Rows" "all" "J"] ++ wsX40)
def wsX4_pass_r1 : List Cond := [Cond.fieldLink RX4 38 "LaneNets$Net" "count" "I", Cond.methodLink RX4 44 yX3_actingKind, Cond.instanceMethod yX3_actingKind, Cond.selects RX3 yX3_actingKind yX3_actingKind, Cond.initialized RX3, Cond.code yX3_actingKind cX3_actingKind 3 (some .int), Cond.methodLink RX3 22 yX3_kind, Cond.instanceMethod yX3_kind, Cond.selects RX3 yX3_kind yX3_kind, Cond.code yX3_kind cX3_kind 2 (some .int), Cond.fieldLink RX3 18 "LaneNets$Net" "comparers" "[I", Cond.methodLink RX3 26 yX3_switchOf, Cond.instanceMethod yX3_switchOf, Cond.selects RX3 yX3_switchOf yX3_switchOf, Cond.code yX3_switchOf cX3_switchOf 2 (some .int), Cond.methodLink RX4 48 yX3_low, Cond.instanceMethod yX3_low, Cond.selects RX3 yX3_low yX3_low, Cond.code yX3_low cX3_low 2 (some .int), Cond.methodLink RX4 51 yX3_high, Cond.instanceMethod yX3_high, Cond.selects RX3 yX3_high yX3_high, Cond.code yX3_high cX3_high 2 (some .int), Cond.methodLink RX4 54 yX4_step]
def wsX4_pass_r2 : List Cond := [Cond.instanceMethod yX4_step, Cond.selects RX4 yX4_step yX4_step, Cond.initialized RX4, Cond.code yX4_step cX4_step 6 none, Cond.fieldLink RX4 9 "LaneNets$Rows" "columns" "[J", Cond.methodLink RX4 34 yX4_changing, Cond.instanceMethod yX4_changing, Cond.selects RX4 yX4_changing yX4_changing, Cond.code yX4_changing cX4_changing 4 (some .long), Cond.constantLong RX4 25 (-1), Cond.fieldLink RX4 15 "LaneNets$Rows" "all" "J"]
def wsX4_pass : List Cond := .code yX4_pass cX4_pass 4 none :: ((wsX4_pass_r1 ++ wsX4_pass_r2) ++ wsX30 ++ wsX40)
def wsX4_falling : List Cond := .code yX4_falling cX4_falling 6 (some .long) :: ([.fieldLink RX4 9 "LaneNets$Rows" "columns" "[J", .constantLong RX4 25 (-1)] ++ wsX40)
def wsX4_differing : List Cond := .code yX4_differing cX4_differing 6 (some .long) :: ([.fieldLink RX4 9 "LaneNets$Rows" "columns" "[J"] ++ wsX40)
def wsX4_numberOf : List Cond := .code yX4_numberOf cX4_numberOf 5 (some .int) :: ([.fieldLink RX4 9 "LaneNets$Rows" "columns" "[J"] ++ wsX40)
def wsX4_packed : List Cond := .code yX4_packed cX4_packed 5 (some .long) :: ([.fieldLink RX4 9 "LaneNets$Rows" "columns" "[J"] ++ wsX40)
def wsX5_init_r1 : List Cond := [Cond.methodLink RX5 1 objectInit, Cond.instanceMethod objectInit, Cond.code objectInit ⟨#[0xb1]⟩ 1 none, Cond.classLink RX5 7 RX3, Cond.instantiable RX3 3, Cond.initialized RX3, Cond.fieldLink RX5 10 "LaneNets" "net" "LLaneNets$Net;", Cond.fieldLink RX5 16 "LaneNets" "slots" "[LLaneNets$Net;", Cond.classLink RX5 20 RX2, Cond.instantiable RX2 3, Cond.initialized RX2, Cond.fieldLink RX5 23 "LaneNets" "history" "LLaneNets$History;", Cond.classLink RX5 27 RX1, Cond.fieldLink RX5 29 "LaneNets" "crates" "[LLaneNets$Crate;", Cond.classLink RX5 33 RX4, Cond.instantiable RX4 2, Cond.initialized RX4, Cond.fieldLink RX5 36 "LaneNets" "rows" "LLaneNets$Rows;", Cond.fieldLink RX5 40 "LaneNets" "otherRows" "LLaneNets$Rows;", Cond.classLink RX5 43 RX0, Cond.instantiable RX0 4, Cond.initialized RX0, Cond.fieldLink RX5 46 "LaneNets" "completion" "LLaneNets$Completion;", Cond.arrayClass .int]
def wsX5_init_r2 : List Cond := [Cond.fieldLink RX5 50 "LaneNets" "laneNumbers" "[I", Cond.fieldLink RX5 54 "LaneNets" "waiting" "[I", Cond.fieldLink RX5 57 "LaneNets" "waits" "I", Cond.fieldLink RX5 61 "LaneNets" "findings" "I", Cond.instantiable RX1 3, Cond.initialized RX1, Cond.instanceMethod yX3_init, Cond.code yX3_init cX3_init 1 none, Cond.methodLink RX3 3 objectInit, Cond.fieldLink RX3 9 "LaneNets$Net" "lanes" "I", Cond.fieldLink RX3 15 "LaneNets$Net" "count" "I", Cond.fieldLink RX3 18 "LaneNets$Net" "comparers" "[I", Cond.methodLink RX5 22 yX2_init, Cond.instanceMethod yX2_init, Cond.code yX2_init cX2_init 2 none, Cond.methodLink RX2 3 objectInit, Cond.classLink RX2 9 RX3, Cond.fieldLink RX2 11 "LaneNets$History" "nets" "[LLaneNets$Net;", Cond.fieldLink RX2 17 "LaneNets$History" "free" "I", Cond.fieldLink RX2 21 "LaneNets$History" "held" "I", Cond.instanceMethod yX4_init, Cond.code yX4_init cX4_init 1 none, Cond.methodLink RX4 3 objectInit, Cond.arrayClass .long]
def wsX5_init_r3 : List Cond := [Cond.fieldLink RX4 9 "LaneNets$Rows" "columns" "[J", Cond.fieldLink RX4 15 "LaneNets$Rows" "all" "J", Cond.instanceMethod yX0_init, Cond.code yX0_init cX0_init 1 none, Cond.methodLink RX0 3 objectInit, Cond.fieldLink RX0 9 "LaneNets$Completion" "pairs" "[I", Cond.fieldLink RX0 15 "LaneNets$Completion" "fewest" "I", Cond.fieldLink RX0 19 "LaneNets$Completion" "knownLanes" "I", Cond.fieldLink RX0 22 "LaneNets$Completion" "knownColumns" "J", Cond.methodLink RX5 64 yX3_clear, Cond.instanceMethod yX3_clear, Cond.selects RX3 yX3_clear yX3_clear, Cond.code yX3_clear cX3_clear 2 none, Cond.instanceMethod yX1_init, Cond.code yX1_init cX1_init 1 none, Cond.methodLink RX1 3 objectInit, Cond.fieldLink RX1 9 "LaneNets$Crate" "kind" "I", Cond.fieldLink RX1 15 "LaneNets$Crate" "count" "I", Cond.fieldLink RX1 18 "LaneNets$Crate" "loads" "[J"]
def wsX5_init : List Cond := .code yX5_init cX5_init 2 none :: ((wsX5_init_r1 ++ (wsX5_init_r2 ++ wsX5_init_r3)) ++ wsX30 ++ wsX50 ++ wsX20 ++ wsX40 ++ wsX00 ++ wsX10)
def wsX5_finding : List Cond := .code yX5_finding cX5_finding 2 (some .int) :: ([.fieldLink RX5 61 "LaneNets" "findings" "I"] ++ wsX50)
def wsX5_lanes_r1 : List Cond := [Cond.fieldLink RX5 23 "LaneNets" "history" "LLaneNets$History;", Cond.fieldLink RX5 10 "LaneNets" "net" "LLaneNets$Net;", Cond.fieldLink RX5 77 "LaneNets$Net" "count" "I", Cond.methodLink RX5 69 yX5_finding, Cond.instanceMethod yX5_finding, Cond.selects RX5 yX5_finding yX5_finding, Cond.initialized RX5, Cond.code yX5_finding cX5_finding 2 (some .int), Cond.fieldLink RX5 61 "LaneNets" "findings" "I", Cond.methodLink RX5 73 yX2_remember, Cond.instanceMethod yX2_remember, Cond.selects RX2 yX2_remember yX2_remember, Cond.initialized RX2, Cond.code yX2_remember cX2_remember 2 none, Cond.fieldLink RX2 11 "LaneNets$History" "nets" "[LLaneNets$Net;", Cond.fieldLink RX2 17 "LaneNets$History" "free" "I", Cond.fieldLink RX2 21 "LaneNets$History" "held" "I", Cond.methodLink RX2 29 Lib.Math.min.name, Cond.static Lib.Math.min.name, Cond.initialized "java/lang/Math", Cond.code Lib.Math.min.name Lib.Math.min.code 2 (some .int), Cond.methodLink RX2 25 yX3_become, Cond.instanceMethod yX3_become, Cond.selects RX3 yX3_become yX3_become]
def wsX5_lanes_r2 : List Cond := [Cond.initialized RX3, Cond.code yX3_become cX3_become 2 none, Cond.fieldLink RX3 9 "LaneNets$Net" "lanes" "I", Cond.fieldLink RX3 15 "LaneNets$Net" "count" "I", Cond.fieldLink RX3 18 "LaneNets$Net" "comparers" "[I", Cond.methodLink RX3 33 arraycopyName, Cond.native arraycopyName, Cond.static arraycopyName, Cond.initialized "java/lang/System", Cond.methodLink RX5 64 yX3_clear, Cond.instanceMethod yX3_clear, Cond.selects RX3 yX3_clear yX3_clear, Cond.code yX3_clear cX3_clear 2 none]
def wsX5_lanes : List Cond := .code yX5_lanes cX5_lanes 3 (some .int) :: ((wsX5_lanes_r1 ++ wsX5_lanes_r2) ++ wsX50 ++ wsX30 ++ wsX20)
def wsX5_isKind : List Cond := .code yX5_isKind cX5_isKind 1 (some .boolean) :: ([])
def wsX5_comparer_r1 : List Cond := [Cond.fieldLink RX5 10 "LaneNets" "net" "LLaneNets$Net;", Cond.fieldLink RX5 77 "LaneNets$Net" "count" "I", Cond.fieldLink RX5 23 "LaneNets" "history" "LLaneNets$History;", Cond.methodLink RX5 80 yX5_isKind, Cond.static yX5_isKind, Cond.initialized RX5, Cond.code yX5_isKind cX5_isKind 1 (some .boolean), Cond.methodLink RX5 84 yX3_hasLane, Cond.instanceMethod yX3_hasLane, Cond.selects RX3 yX3_hasLane yX3_hasLane, Cond.initialized RX3, Cond.code yX3_hasLane cX3_hasLane 2 (some .boolean), Cond.fieldLink RX3 9 "LaneNets$Net" "lanes" "I", Cond.methodLink RX5 69 yX5_finding, Cond.instanceMethod yX5_finding, Cond.selects RX5 yX5_finding yX5_finding, Cond.code yX5_finding cX5_finding 2 (some .int), Cond.fieldLink RX5 61 "LaneNets" "findings" "I", Cond.methodLink RX5 73 yX2_remember, Cond.instanceMethod yX2_remember, Cond.selects RX2 yX2_remember yX2_remember, Cond.initialized RX2, Cond.code yX2_remember cX2_remember 2 none, Cond.fieldLink RX2 11 "LaneNets$History" "nets" "[LLaneNets$Net;"]
def wsX5_comparer_r2 : List Cond := [Cond.fieldLink RX2 17 "LaneNets$History" "free" "I", Cond.fieldLink RX2 21 "LaneNets$History" "held" "I", Cond.methodLink RX2 29 Lib.Math.min.name, Cond.static Lib.Math.min.name, Cond.initialized "java/lang/Math", Cond.code Lib.Math.min.name Lib.Math.min.code 2 (some .int), Cond.methodLink RX2 25 yX3_become, Cond.instanceMethod yX3_become, Cond.selects RX3 yX3_become yX3_become, Cond.code yX3_become cX3_become 2 none, Cond.fieldLink RX3 15 "LaneNets$Net" "count" "I", Cond.fieldLink RX3 18 "LaneNets$Net" "comparers" "[I", Cond.methodLink RX3 33 arraycopyName, Cond.native arraycopyName, Cond.static arraycopyName, Cond.initialized "java/lang/System", Cond.methodLink RX5 87 yX3_add, Cond.instanceMethod yX3_add, Cond.selects RX3 yX3_add yX3_add, Cond.code yX3_add cX3_add 4 none, Cond.methodLink RX3 29 yX3_write, Cond.instanceMethod yX3_write, Cond.selects RX3 yX3_write yX3_write, Cond.code yX3_write cX3_write 6 none]
def wsX5_comparer : List Cond := .code yX5_comparer cX5_comparer 4 (some .int) :: ((wsX5_comparer_r1 ++ wsX5_comparer_r2) ++ wsX50 ++ wsX30 ++ wsX20)
def wsX5_cut_r1 : List Cond := [Cond.fieldLink RX5 10 "LaneNets" "net" "LLaneNets$Net;", Cond.fieldLink RX5 77 "LaneNets$Net" "count" "I", Cond.fieldLink RX5 23 "LaneNets" "history" "LLaneNets$History;", Cond.methodLink RX5 69 yX5_finding, Cond.instanceMethod yX5_finding, Cond.selects RX5 yX5_finding yX5_finding, Cond.initialized RX5, Cond.code yX5_finding cX5_finding 2 (some .int), Cond.fieldLink RX5 61 "LaneNets" "findings" "I", Cond.methodLink RX5 73 yX2_remember, Cond.instanceMethod yX2_remember, Cond.selects RX2 yX2_remember yX2_remember, Cond.initialized RX2, Cond.code yX2_remember cX2_remember 2 none, Cond.fieldLink RX2 11 "LaneNets$History" "nets" "[LLaneNets$Net;", Cond.fieldLink RX2 17 "LaneNets$History" "free" "I", Cond.fieldLink RX2 21 "LaneNets$History" "held" "I", Cond.methodLink RX2 29 Lib.Math.min.name, Cond.static Lib.Math.min.name, Cond.initialized "java/lang/Math", Cond.code Lib.Math.min.name Lib.Math.min.code 2 (some .int), Cond.methodLink RX2 25 yX3_become, Cond.instanceMethod yX3_become, Cond.selects RX3 yX3_become yX3_become]
def wsX5_cut_r2 : List Cond := [Cond.initialized RX3, Cond.code yX3_become cX3_become 2 none, Cond.fieldLink RX3 9 "LaneNets$Net" "lanes" "I", Cond.fieldLink RX3 15 "LaneNets$Net" "count" "I", Cond.fieldLink RX3 18 "LaneNets$Net" "comparers" "[I", Cond.methodLink RX3 33 arraycopyName, Cond.native arraycopyName, Cond.static arraycopyName, Cond.initialized "java/lang/System"]
def wsX5_cut : List Cond := .code yX5_cut cX5_cut 3 (some .int) :: ((wsX5_cut_r1 ++ wsX5_cut_r2) ++ wsX50 ++ wsX30 ++ wsX20)
def wsX5_change_r1 : List Cond := [Cond.fieldLink RX5 10 "LaneNets" "net" "LLaneNets$Net;", Cond.fieldLink RX5 23 "LaneNets" "history" "LLaneNets$History;", Cond.methodLink RX5 91 yX3_has, Cond.instanceMethod yX3_has, Cond.selects RX3 yX3_has yX3_has, Cond.initialized RX3, Cond.code yX3_has cX3_has 2 (some .boolean), Cond.fieldLink RX3 15 "LaneNets$Net" "count" "I", Cond.methodLink RX5 80 yX5_isKind, Cond.static yX5_isKind, Cond.initialized RX5, Cond.code yX5_isKind cX5_isKind 1 (some .boolean), Cond.methodLink RX5 69 yX5_finding, Cond.instanceMethod yX5_finding, Cond.selects RX5 yX5_finding yX5_finding, Cond.code yX5_finding cX5_finding 2 (some .int), Cond.fieldLink RX5 61 "LaneNets" "findings" "I", Cond.methodLink RX5 73 yX2_remember, Cond.instanceMethod yX2_remember, Cond.selects RX2 yX2_remember yX2_remember, Cond.initialized RX2, Cond.code yX2_remember cX2_remember 2 none, Cond.fieldLink RX2 11 "LaneNets$History" "nets" "[LLaneNets$Net;", Cond.fieldLink RX2 17 "LaneNets$History" "free" "I"]
def wsX5_change_r2 : List Cond := [Cond.fieldLink RX2 21 "LaneNets$History" "held" "I", Cond.methodLink RX2 29 Lib.Math.min.name, Cond.static Lib.Math.min.name, Cond.initialized "java/lang/Math", Cond.code Lib.Math.min.name Lib.Math.min.code 2 (some .int), Cond.methodLink RX2 25 yX3_become, Cond.instanceMethod yX3_become, Cond.selects RX3 yX3_become yX3_become, Cond.code yX3_become cX3_become 2 none, Cond.fieldLink RX3 9 "LaneNets$Net" "lanes" "I", Cond.fieldLink RX3 18 "LaneNets$Net" "comparers" "[I", Cond.methodLink RX3 33 arraycopyName, Cond.native arraycopyName, Cond.static arraycopyName, Cond.initialized "java/lang/System", Cond.methodLink RX5 94 yX3_kind, Cond.instanceMethod yX3_kind, Cond.selects RX3 yX3_kind yX3_kind, Cond.code yX3_kind cX3_kind 2 (some .int), Cond.methodLink RX5 97 yX3_low, Cond.instanceMethod yX3_low, Cond.selects RX3 yX3_low yX3_low, Cond.code yX3_low cX3_low 2 (some .int), Cond.methodLink RX5 100 yX3_high]
def wsX5_change_r3 : List Cond := [Cond.instanceMethod yX3_high, Cond.selects RX3 yX3_high yX3_high, Cond.code yX3_high cX3_high 2 (some .int), Cond.methodLink RX5 103 yX3_write, Cond.instanceMethod yX3_write, Cond.selects RX3 yX3_write yX3_write, Cond.code yX3_write cX3_write 6 none]
def wsX5_change : List Cond := .code yX5_change cX5_change 4 (some .int) :: ((wsX5_change_r1 ++ (wsX5_change_r2 ++ wsX5_change_r3)) ++ wsX50 ++ wsX30 ++ wsX20)
def wsX5_turnSwitch_r1 : List Cond := [Cond.fieldLink RX5 10 "LaneNets" "net" "LLaneNets$Net;", Cond.fieldLink RX5 23 "LaneNets" "history" "LLaneNets$History;", Cond.methodLink RX5 91 yX3_has, Cond.instanceMethod yX3_has, Cond.selects RX3 yX3_has yX3_has, Cond.initialized RX3, Cond.code yX3_has cX3_has 2 (some .boolean), Cond.fieldLink RX3 15 "LaneNets$Net" "count" "I", Cond.methodLink RX5 69 yX5_finding, Cond.instanceMethod yX5_finding, Cond.selects RX5 yX5_finding yX5_finding, Cond.initialized RX5, Cond.code yX5_finding cX5_finding 2 (some .int), Cond.fieldLink RX5 61 "LaneNets" "findings" "I", Cond.methodLink RX5 94 yX3_kind, Cond.instanceMethod yX3_kind, Cond.selects RX3 yX3_kind yX3_kind, Cond.code yX3_kind cX3_kind 2 (some .int), Cond.fieldLink RX3 18 "LaneNets$Net" "comparers" "[I", Cond.methodLink RX5 73 yX2_remember, Cond.instanceMethod yX2_remember, Cond.selects RX2 yX2_remember yX2_remember, Cond.initialized RX2, Cond.code yX2_remember cX2_remember 2 none]
def wsX5_turnSwitch_r2 : List Cond := [Cond.fieldLink RX2 11 "LaneNets$History" "nets" "[LLaneNets$Net;", Cond.fieldLink RX2 17 "LaneNets$History" "free" "I", Cond.fieldLink RX2 21 "LaneNets$History" "held" "I", Cond.methodLink RX2 29 Lib.Math.min.name, Cond.static Lib.Math.min.name, Cond.initialized "java/lang/Math", Cond.code Lib.Math.min.name Lib.Math.min.code 2 (some .int), Cond.methodLink RX2 25 yX3_become, Cond.instanceMethod yX3_become, Cond.selects RX3 yX3_become yX3_become, Cond.code yX3_become cX3_become 2 none, Cond.fieldLink RX3 9 "LaneNets$Net" "lanes" "I", Cond.methodLink RX3 33 arraycopyName, Cond.native arraycopyName, Cond.static arraycopyName, Cond.initialized "java/lang/System", Cond.methodLink RX5 107 yX3_switchOf, Cond.instanceMethod yX3_switchOf, Cond.selects RX3 yX3_switchOf yX3_switchOf, Cond.code yX3_switchOf cX3_switchOf 2 (some .int), Cond.methodLink RX5 110 yX3_setSwitch, Cond.instanceMethod yX3_setSwitch, Cond.selects RX3 yX3_setSwitch yX3_setSwitch, Cond.code yX3_setSwitch cX3_setSwitch 3 none]
def wsX5_turnSwitch : List Cond := .code yX5_turnSwitch cX5_turnSwitch 4 (some .int) :: ((wsX5_turnSwitch_r1 ++ wsX5_turnSwitch_r2) ++ wsX50 ++ wsX30 ++ wsX20)
def wsX5_isUnder : List Cond := .code yX5_isUnder cX5_isUnder 4 (some .boolean) :: ([.fieldLink RX5 283 "LaneNets" "KIND_ABOVE" "[I", .methodLink RX5 80 yX5_isKind, .static yX5_isKind, .initialized RX5, .code yX5_isKind cX5_isKind 1 (some .boolean)])
def wsX5_as_r1 : List Cond := [Cond.fieldLink RX5 10 "LaneNets" "net" "LLaneNets$Net;", Cond.methodLink RX5 91 yX3_has, Cond.instanceMethod yX3_has, Cond.selects RX3 yX3_has yX3_has, Cond.initialized RX3, Cond.code yX3_has cX3_has 2 (some .boolean), Cond.fieldLink RX3 15 "LaneNets$Net" "count" "I", Cond.methodLink RX5 80 yX5_isKind, Cond.static yX5_isKind, Cond.initialized RX5, Cond.code yX5_isKind cX5_isKind 1 (some .boolean), Cond.methodLink RX5 69 yX5_finding, Cond.instanceMethod yX5_finding, Cond.selects RX5 yX5_finding yX5_finding, Cond.code yX5_finding cX5_finding 2 (some .int), Cond.fieldLink RX5 61 "LaneNets" "findings" "I", Cond.methodLink RX5 94 yX3_kind, Cond.instanceMethod yX3_kind, Cond.selects RX3 yX3_kind yX3_kind, Cond.code yX3_kind cX3_kind 2 (some .int), Cond.fieldLink RX3 18 "LaneNets$Net" "comparers" "[I", Cond.methodLink RX5 114 yX5_isUnder, Cond.static yX5_isUnder, Cond.code yX5_isUnder cX5_isUnder 4 (some .boolean)]
def wsX5_as_r2 : List Cond := [Cond.fieldLink RX5 283 "LaneNets" "KIND_ABOVE" "[I"]
def wsX5_as : List Cond := .code yX5_as cX5_as 3 (some .int) :: ((wsX5_as_r1 ++ wsX5_as_r2) ++ wsX50 ++ wsX30)
def wsX5_lastRound : List Cond := .code yX5_lastRound cX5_lastRound 7 (some .int) :: ([.fieldLink RX5 50 "LaneNets" "laneNumbers" "[I", .fieldLink RX5 10 "LaneNets" "net" "LLaneNets$Net;", .fieldLink RX5 77 "LaneNets$Net" "count" "I", .methodLink RX5 226 Lib.Math.max.name, .static Lib.Math.max.name, .initialized "java/lang/Math", .code Lib.Math.max.name Lib.Math.max.code 2 (some .int), .methodLink RX5 97 yX3_low, .instanceMethod yX3_low, .selects RX3 yX3_low yX3_low, .initialized RX3, .code yX3_low cX3_low 2 (some .int), .fieldLink RX3 18 "LaneNets$Net" "comparers" "[I", .methodLink RX5 100 yX3_high, .instanceMethod yX3_high, .selects RX3 yX3_high yX3_high, .code yX3_high cX3_high 2 (some .int)] ++ wsX50 ++ wsX30)
def wsX5_of_r1 : List Cond := [Cond.fieldLink RX5 10 "LaneNets" "net" "LLaneNets$Net;", Cond.fieldLink RX5 50 "LaneNets" "laneNumbers" "[I", Cond.methodLink RX5 91 yX3_has, Cond.instanceMethod yX3_has, Cond.selects RX3 yX3_has yX3_has, Cond.initialized RX3, Cond.code yX3_has cX3_has 2 (some .boolean), Cond.fieldLink RX3 15 "LaneNets$Net" "count" "I", Cond.methodLink RX5 69 yX5_finding, Cond.instanceMethod yX5_finding, Cond.selects RX5 yX5_finding yX5_finding, Cond.initialized RX5, Cond.code yX5_finding cX5_finding 2 (some .int), Cond.fieldLink RX5 61 "LaneNets" "findings" "I", Cond.methodLink RX5 94 yX3_kind, Cond.instanceMethod yX3_kind, Cond.selects RX3 yX3_kind yX3_kind, Cond.code yX3_kind cX3_kind 2 (some .int), Cond.fieldLink RX3 18 "LaneNets$Net" "comparers" "[I", Cond.methodLink RX5 97 yX3_low, Cond.instanceMethod yX3_low, Cond.selects RX3 yX3_low yX3_low, Cond.code yX3_low cX3_low 2 (some .int), Cond.methodLink RX5 100 yX3_high]
def wsX5_of_r2 : List Cond := [Cond.instanceMethod yX3_high, Cond.selects RX3 yX3_high yX3_high, Cond.code yX3_high cX3_high 2 (some .int), Cond.methodLink RX5 118 yX5_lastRound, Cond.instanceMethod yX5_lastRound, Cond.selects RX5 yX5_lastRound yX5_lastRound, Cond.code yX5_lastRound cX5_lastRound 7 (some .int), Cond.fieldLink RX5 77 "LaneNets$Net" "count" "I", Cond.methodLink RX5 226 Lib.Math.max.name, Cond.static Lib.Math.max.name, Cond.initialized "java/lang/Math", Cond.code Lib.Math.max.name Lib.Math.max.code 2 (some .int), Cond.methodLink RX5 107 yX3_switchOf, Cond.instanceMethod yX3_switchOf, Cond.selects RX3 yX3_switchOf yX3_switchOf, Cond.code yX3_switchOf cX3_switchOf 2 (some .int)]
def wsX5_of : List Cond := .code yX5_of cX5_of 3 (some .int) :: ((wsX5_of_r1 ++ wsX5_of_r2) ++ wsX50 ++ wsX30)
def wsX5_rounds : List Cond := .code yX5_rounds cX5_rounds 1 (some .int) :: ([.fieldLink RX5 10 "LaneNets" "net" "LLaneNets$Net;", .fieldLink RX5 77 "LaneNets$Net" "count" "I", .methodLink RX5 118 yX5_lastRound, .instanceMethod yX5_lastRound, .selects RX5 yX5_lastRound yX5_lastRound, .initialized RX5, .code yX5_lastRound cX5_lastRound 7 (some .int), .fieldLink RX5 50 "LaneNets" "laneNumbers" "[I", .methodLink RX5 226 Lib.Math.max.name, .static Lib.Math.max.name, .initialized "java/lang/Math", .code Lib.Math.max.name Lib.Math.max.code 2 (some .int), .methodLink RX5 97 yX3_low, .instanceMethod yX3_low, .selects RX3 yX3_low yX3_low, .initialized RX3, .code yX3_low cX3_low 2 (some .int), .fieldLink RX3 18 "LaneNets$Net" "comparers" "[I", .methodLink RX5 100 yX3_high, .instanceMethod yX3_high, .selects RX3 yX3_high yX3_high, .code yX3_high cX3_high 2 (some .int)] ++ wsX50 ++ wsX30)
def wsX5_isCrate : List Cond := .code yX5_isCrate cX5_isCrate 1 (some .boolean) :: ([])
def wsX5_crate : List Cond := .code yX5_crate cX5_crate 5 (some .int) :: ([.fieldLink RX5 29 "LaneNets" "crates" "[LLaneNets$Crate;", .methodLink RX5 121 yX5_isCrate, .static yX5_isCrate, .initialized RX5, .code yX5_isCrate cX5_isCrate 1 (some .boolean), .methodLink RX5 69 yX5_finding, .instanceMethod yX5_finding, .selects RX5 yX5_finding yX5_finding, .code yX5_finding cX5_finding 2 (some .int), .fieldLink RX5 61 "LaneNets" "findings" "I", .methodLink RX5 124 yX1_renew, .instanceMethod yX1_renew, .selects RX1 yX1_renew yX1_renew, .initialized RX1, .code yX1_renew cX1_renew 4 none, .fieldLink RX1 9 "LaneNets$Crate" "kind" "I", .fieldLink RX1 15 "LaneNets$Crate" "count" "I", .fieldLink RX1 18 "LaneNets$Crate" "loads" "[J"] ++ wsX50 ++ wsX10)
def wsX5_findingOfCrate : List Cond := .code yX5_findingOfCrate cX5_findingOfCrate 2 (some .int) :: ([.fieldLink RX5 29 "LaneNets" "crates" "[LLaneNets$Crate;", .methodLink RX5 121 yX5_isCrate, .static yX5_isCrate, .initialized RX5, .code yX5_isCrate cX5_isCrate 1 (some .boolean), .methodLink RX5 141 yX1_isMissing, .instanceMethod yX1_isMissing, .selects RX1 yX1_isMissing yX1_isMissing, .initialized RX1, .code yX1_isMissing cX1_isMissing 1 (some .boolean), .fieldLink RX1 9 "LaneNets$Crate" "kind" "I"] ++ wsX50 ++ wsX10)
def wsX5_findingOfLoad : List Cond := .code yX5_findingOfLoad cX5_findingOfLoad 4 (some .int) :: ([.fieldLink RX5 29 "LaneNets" "crates" "[LLaneNets$Crate;", .fieldLink RX5 159 "LaneNets$Crate" "count" "I", .methodLink RX5 156 yX5_findingOfCrate, .instanceMethod yX5_findingOfCrate, .selects RX5 yX5_findingOfCrate yX5_findingOfCrate, .initialized RX5, .code yX5_findingOfCrate cX5_findingOfCrate 2 (some .int), .methodLink RX5 121 yX5_isCrate, .static yX5_isCrate, .code yX5_isCrate cX5_isCrate 1 (some .boolean), .methodLink RX5 141 yX1_isMissing, .instanceMethod yX1_isMissing, .selects RX1 yX1_isMissing yX1_isMissing, .initialized RX1, .code yX1_isMissing cX1_isMissing 1 (some .boolean), .fieldLink RX1 9 "LaneNets$Crate" "kind" "I"] ++ wsX50 ++ wsX10)
def wsX5_put_r1 : List Cond := [Cond.fieldLink RX5 29 "LaneNets" "crates" "[LLaneNets$Crate;", Cond.methodLink RX5 128 yX5_findingOfLoad, Cond.instanceMethod yX5_findingOfLoad, Cond.selects RX5 yX5_findingOfLoad yX5_findingOfLoad, Cond.initialized RX5, Cond.code yX5_findingOfLoad cX5_findingOfLoad 4 (some .int), Cond.fieldLink RX5 159 "LaneNets$Crate" "count" "I", Cond.methodLink RX5 156 yX5_findingOfCrate, Cond.instanceMethod yX5_findingOfCrate, Cond.selects RX5 yX5_findingOfCrate yX5_findingOfCrate, Cond.code yX5_findingOfCrate cX5_findingOfCrate 2 (some .int), Cond.methodLink RX5 121 yX5_isCrate, Cond.static yX5_isCrate, Cond.code yX5_isCrate cX5_isCrate 1 (some .boolean), Cond.methodLink RX5 141 yX1_isMissing, Cond.instanceMethod yX1_isMissing, Cond.selects RX1 yX1_isMissing yX1_isMissing, Cond.initialized RX1, Cond.code yX1_isMissing cX1_isMissing 1 (some .boolean), Cond.fieldLink RX1 9 "LaneNets$Crate" "kind" "I", Cond.methodLink RX5 69 yX5_finding, Cond.instanceMethod yX5_finding, Cond.selects RX5 yX5_finding yX5_finding, Cond.code yX5_finding cX5_finding 2 (some .int)]
def wsX5_put_r2 : List Cond := [Cond.fieldLink RX5 61 "LaneNets" "findings" "I", Cond.methodLink RX5 132 yX1_write, Cond.instanceMethod yX1_write, Cond.selects RX1 yX1_write yX1_write, Cond.code yX1_write cX1_write 4 none, Cond.fieldLink RX1 18 "LaneNets$Crate" "loads" "[J", Cond.methodLink RX1 22 yX1_fitted, Cond.static yX1_fitted, Cond.code yX1_fitted cX1_fitted 3 (some .long), Cond.constant RX1 26 (2147483647), Cond.constant RX1 27 (2139095040), Cond.constantLong RX1 28 (2143289344), Cond.constantLong RX1 30 (9223372036854775807), Cond.constantLong RX1 32 (9218868437227405312), Cond.constantLong RX1 34 (9221120237041090560)]
def wsX5_put : List Cond := .code yX5_put cX5_put 6 (some .int) :: ((wsX5_put_r1 ++ wsX5_put_r2) ++ wsX50 ++ wsX10)
def wsX5_load_r1 : List Cond := [Cond.constantLong RX5 135 (-9223372036854775808), Cond.fieldLink RX5 29 "LaneNets" "crates" "[LLaneNets$Crate;", Cond.fieldLink RX5 137 "LaneNets$Crate" "loads" "[J", Cond.methodLink RX5 128 yX5_findingOfLoad, Cond.instanceMethod yX5_findingOfLoad, Cond.selects RX5 yX5_findingOfLoad yX5_findingOfLoad, Cond.initialized RX5, Cond.code yX5_findingOfLoad cX5_findingOfLoad 4 (some .int), Cond.fieldLink RX5 159 "LaneNets$Crate" "count" "I", Cond.methodLink RX5 156 yX5_findingOfCrate, Cond.instanceMethod yX5_findingOfCrate, Cond.selects RX5 yX5_findingOfCrate yX5_findingOfCrate, Cond.code yX5_findingOfCrate cX5_findingOfCrate 2 (some .int), Cond.methodLink RX5 121 yX5_isCrate, Cond.static yX5_isCrate, Cond.code yX5_isCrate cX5_isCrate 1 (some .boolean), Cond.methodLink RX5 141 yX1_isMissing, Cond.instanceMethod yX1_isMissing, Cond.selects RX1 yX1_isMissing yX1_isMissing, Cond.initialized RX1, Cond.code yX1_isMissing cX1_isMissing 1 (some .boolean), Cond.fieldLink RX1 9 "LaneNets$Crate" "kind" "I", Cond.methodLink RX5 69 yX5_finding, Cond.instanceMethod yX5_finding]
def wsX5_load_r2 : List Cond := [Cond.selects RX5 yX5_finding yX5_finding, Cond.code yX5_finding cX5_finding 2 (some .int), Cond.fieldLink RX5 61 "LaneNets" "findings" "I"]
def wsX5_load : List Cond := .code yX5_load cX5_load 4 (some .long) :: ((wsX5_load_r1 ++ wsX5_load_r2) ++ wsX50 ++ wsX10)
def wsX5_copy_r1 : List Cond := [Cond.fieldLink RX5 29 "LaneNets" "crates" "[LLaneNets$Crate;", Cond.fieldLink RX5 145 "LaneNets$Crate" "kind" "I", Cond.fieldLink RX5 137 "LaneNets$Crate" "loads" "[J", Cond.methodLink RX5 150 arraycopyName, Cond.native arraycopyName, Cond.static arraycopyName, Cond.initialized "java/lang/System", Cond.methodLink RX5 121 yX5_isCrate, Cond.static yX5_isCrate, Cond.initialized RX5, Cond.code yX5_isCrate cX5_isCrate 1 (some .boolean), Cond.methodLink RX5 69 yX5_finding, Cond.instanceMethod yX5_finding, Cond.selects RX5 yX5_finding yX5_finding, Cond.code yX5_finding cX5_finding 2 (some .int), Cond.fieldLink RX5 61 "LaneNets" "findings" "I", Cond.methodLink RX5 141 yX1_isMissing, Cond.instanceMethod yX1_isMissing, Cond.selects RX1 yX1_isMissing yX1_isMissing, Cond.initialized RX1, Cond.code yX1_isMissing cX1_isMissing 1 (some .boolean), Cond.fieldLink RX1 9 "LaneNets$Crate" "kind" "I", Cond.methodLink RX5 147 yX1_hasPart, Cond.instanceMethod yX1_hasPart]
def wsX5_copy_r2 : List Cond := [Cond.selects RX1 yX1_hasPart yX1_hasPart, Cond.code yX1_hasPart cX1_hasPart 3 (some .boolean), Cond.fieldLink RX1 15 "LaneNets$Crate" "count" "I"]
def wsX5_copy : List Cond := .code yX5_copy cX5_copy 8 (some .int) :: ((wsX5_copy_r1 ++ wsX5_copy_r2) ++ wsX50 ++ wsX10)
def wsX5_run_r1 : List Cond := [Cond.fieldLink RX5 29 "LaneNets" "crates" "[LLaneNets$Crate;", Cond.fieldLink RX5 159 "LaneNets$Crate" "count" "I", Cond.fieldLink RX5 10 "LaneNets" "net" "LLaneNets$Net;", Cond.fieldLink RX5 160 "LaneNets$Net" "lanes" "I", Cond.fieldLink RX5 77 "LaneNets$Net" "count" "I", Cond.methodLink RX5 156 yX5_findingOfCrate, Cond.instanceMethod yX5_findingOfCrate, Cond.selects RX5 yX5_findingOfCrate yX5_findingOfCrate, Cond.initialized RX5, Cond.code yX5_findingOfCrate cX5_findingOfCrate 2 (some .int), Cond.methodLink RX5 121 yX5_isCrate, Cond.static yX5_isCrate, Cond.code yX5_isCrate cX5_isCrate 1 (some .boolean), Cond.methodLink RX5 141 yX1_isMissing, Cond.instanceMethod yX1_isMissing, Cond.selects RX1 yX1_isMissing yX1_isMissing, Cond.initialized RX1, Cond.code yX1_isMissing cX1_isMissing 1 (some .boolean), Cond.fieldLink RX1 9 "LaneNets$Crate" "kind" "I", Cond.methodLink RX5 69 yX5_finding, Cond.instanceMethod yX5_finding, Cond.selects RX5 yX5_finding yX5_finding, Cond.code yX5_finding cX5_finding 2 (some .int), Cond.fieldLink RX5 61 "LaneNets" "findings" "I"]
def wsX5_run_r2 : List Cond := [Cond.methodLink RX5 163 yX3_actingKind, Cond.instanceMethod yX3_actingKind, Cond.selects RX3 yX3_actingKind yX3_actingKind, Cond.initialized RX3, Cond.code yX3_actingKind cX3_actingKind 3 (some .int), Cond.methodLink RX3 22 yX3_kind, Cond.instanceMethod yX3_kind, Cond.selects RX3 yX3_kind yX3_kind, Cond.code yX3_kind cX3_kind 2 (some .int), Cond.fieldLink RX3 18 "LaneNets$Net" "comparers" "[I", Cond.methodLink RX3 26 yX3_switchOf, Cond.instanceMethod yX3_switchOf, Cond.selects RX3 yX3_switchOf yX3_switchOf, Cond.code yX3_switchOf cX3_switchOf 2 (some .int), Cond.methodLink RX5 97 yX3_low, Cond.instanceMethod yX3_low, Cond.selects RX3 yX3_low yX3_low, Cond.code yX3_low cX3_low 2 (some .int), Cond.methodLink RX5 100 yX3_high, Cond.instanceMethod yX3_high, Cond.selects RX3 yX3_high yX3_high, Cond.code yX3_high cX3_high 2 (some .int), Cond.methodLink RX5 166 yX1_mustChange, Cond.instanceMethod yX1_mustChange]
def wsX5_run_r3 : List Cond := [Cond.selects RX1 yX1_mustChange yX1_mustChange, Cond.code yX1_mustChange cX1_mustChange 4 (some .boolean), Cond.methodLink RX1 46 yX1_compare, Cond.instanceMethod yX1_compare, Cond.selects RX1 yX1_compare yX1_compare, Cond.code yX1_compare cX1_compare 3 (some .int), Cond.fieldLink RX1 18 "LaneNets$Crate" "loads" "[J", Cond.methodLink RX1 36 yX1_rank, Cond.instanceMethod yX1_rank, Cond.selects RX1 yX1_rank yX1_rank, Cond.code yX1_rank cX1_rank 4 (some .long), Cond.constantLong RX1 30 (9223372036854775807), Cond.methodLink RX1 40 yJ13_compare_74951, Cond.static yJ13_compare_74951, Cond.initialized RJ13, Cond.code yJ13_compare_74951 cJ13_compare_74951 4 (some .int), Cond.methodLink RX5 170 yX1_exchange, Cond.instanceMethod yX1_exchange, Cond.selects RX1 yX1_exchange yX1_exchange, Cond.code yX1_exchange cX1_exchange 5 none]
def wsX5_run : List Cond := .code yX5_run cX5_run 6 (some .int) :: ((wsX5_run_r1 ++ (wsX5_run_r2 ++ wsX5_run_r3)) ++ wsX50 ++ wsX10 ++ wsX30)
def wsX5_rises_r1 : List Cond := [Cond.fieldLink RX5 29 "LaneNets" "crates" "[LLaneNets$Crate;", Cond.fieldLink RX5 159 "LaneNets$Crate" "count" "I", Cond.methodLink RX5 156 yX5_findingOfCrate, Cond.instanceMethod yX5_findingOfCrate, Cond.selects RX5 yX5_findingOfCrate yX5_findingOfCrate, Cond.initialized RX5, Cond.code yX5_findingOfCrate cX5_findingOfCrate 2 (some .int), Cond.methodLink RX5 121 yX5_isCrate, Cond.static yX5_isCrate, Cond.code yX5_isCrate cX5_isCrate 1 (some .boolean), Cond.methodLink RX5 141 yX1_isMissing, Cond.instanceMethod yX1_isMissing, Cond.selects RX1 yX1_isMissing yX1_isMissing, Cond.initialized RX1, Cond.code yX1_isMissing cX1_isMissing 1 (some .boolean), Cond.fieldLink RX1 9 "LaneNets$Crate" "kind" "I", Cond.methodLink RX5 69 yX5_finding, Cond.instanceMethod yX5_finding, Cond.selects RX5 yX5_finding yX5_finding, Cond.code yX5_finding cX5_finding 2 (some .int), Cond.fieldLink RX5 61 "LaneNets" "findings" "I", Cond.methodLink RX5 173 yX1_compare, Cond.instanceMethod yX1_compare, Cond.selects RX1 yX1_compare yX1_compare]
def wsX5_rises_r2 : List Cond := [Cond.code yX1_compare cX1_compare 3 (some .int), Cond.fieldLink RX1 18 "LaneNets$Crate" "loads" "[J", Cond.methodLink RX1 36 yX1_rank, Cond.instanceMethod yX1_rank, Cond.selects RX1 yX1_rank yX1_rank, Cond.code yX1_rank cX1_rank 4 (some .long), Cond.constantLong RX1 30 (9223372036854775807), Cond.methodLink RX1 40 yJ13_compare_74951, Cond.static yJ13_compare_74951, Cond.initialized RJ13, Cond.code yJ13_compare_74951 cJ13_compare_74951 4 (some .int)]
def wsX5_rises : List Cond := .code yX5_rises cX5_rises 5 (some .int) :: ((wsX5_rises_r1 ++ wsX5_rises_r2) ++ wsX50 ++ wsX10)
def wsX5_order_r1 : List Cond := [Cond.fieldLink RX5 29 "LaneNets" "crates" "[LLaneNets$Crate;", Cond.methodLink RX5 128 yX5_findingOfLoad, Cond.instanceMethod yX5_findingOfLoad, Cond.selects RX5 yX5_findingOfLoad yX5_findingOfLoad, Cond.initialized RX5, Cond.code yX5_findingOfLoad cX5_findingOfLoad 4 (some .int), Cond.fieldLink RX5 159 "LaneNets$Crate" "count" "I", Cond.methodLink RX5 156 yX5_findingOfCrate, Cond.instanceMethod yX5_findingOfCrate, Cond.selects RX5 yX5_findingOfCrate yX5_findingOfCrate, Cond.code yX5_findingOfCrate cX5_findingOfCrate 2 (some .int), Cond.methodLink RX5 121 yX5_isCrate, Cond.static yX5_isCrate, Cond.code yX5_isCrate cX5_isCrate 1 (some .boolean), Cond.methodLink RX5 141 yX1_isMissing, Cond.instanceMethod yX1_isMissing, Cond.selects RX1 yX1_isMissing yX1_isMissing, Cond.initialized RX1, Cond.code yX1_isMissing cX1_isMissing 1 (some .boolean), Cond.fieldLink RX1 9 "LaneNets$Crate" "kind" "I", Cond.methodLink RX5 69 yX5_finding, Cond.instanceMethod yX5_finding, Cond.selects RX5 yX5_finding yX5_finding, Cond.code yX5_finding cX5_finding 2 (some .int)]
def wsX5_order_r2 : List Cond := [Cond.fieldLink RX5 61 "LaneNets" "findings" "I", Cond.methodLink RX5 173 yX1_compare, Cond.instanceMethod yX1_compare, Cond.selects RX1 yX1_compare yX1_compare, Cond.code yX1_compare cX1_compare 3 (some .int), Cond.fieldLink RX1 18 "LaneNets$Crate" "loads" "[J", Cond.methodLink RX1 36 yX1_rank, Cond.instanceMethod yX1_rank, Cond.selects RX1 yX1_rank yX1_rank, Cond.code yX1_rank cX1_rank 4 (some .long), Cond.constantLong RX1 30 (9223372036854775807), Cond.methodLink RX1 40 yJ13_compare_74951, Cond.static yJ13_compare_74951, Cond.initialized RJ13, Cond.code yJ13_compare_74951 cJ13_compare_74951 4 (some .int)]
def wsX5_order : List Cond := .code yX5_order cX5_order 6 (some .int) :: ((wsX5_order_r1 ++ wsX5_order_r2) ++ wsX50 ++ wsX10)
def wsX5_out_r1 : List Cond := [Cond.fieldLink RX5 10 "LaneNets" "net" "LLaneNets$Net;", Cond.fieldLink RX5 160 "LaneNets$Net" "lanes" "I", Cond.fieldLink RX5 36 "LaneNets" "rows" "LLaneNets$Rows;", Cond.methodLink RX5 69 yX5_finding, Cond.instanceMethod yX5_finding, Cond.selects RX5 yX5_finding yX5_finding, Cond.initialized RX5, Cond.code yX5_finding cX5_finding 2 (some .int), Cond.fieldLink RX5 61 "LaneNets" "findings" "I", Cond.methodLink RX5 176 yX4_start, Cond.instanceMethod yX4_start, Cond.selects RX4 yX4_start yX4_start, Cond.initialized RX4, Cond.code yX4_start cX4_start 4 none, Cond.constantLong RX4 25 (-1), Cond.fieldLink RX4 15 "LaneNets$Rows" "all" "J", Cond.fieldLink RX4 9 "LaneNets$Rows" "columns" "[J", Cond.methodLink RX4 27 yX4_firstColumn, Cond.static yX4_firstColumn, Cond.code yX4_firstColumn cX4_firstColumn 2 (some .long), Cond.fieldLink RX4 31 "LaneNets$Rows" "FIRST_COLUMNS" "[J", Cond.methodLink RX5 179 yX4_pass, Cond.instanceMethod yX4_pass, Cond.selects RX4 yX4_pass yX4_pass]
def wsX5_out_r2 : List Cond := [Cond.code yX4_pass cX4_pass 4 none, Cond.fieldLink RX4 38 "LaneNets$Net" "count" "I", Cond.methodLink RX4 44 yX3_actingKind, Cond.instanceMethod yX3_actingKind, Cond.selects RX3 yX3_actingKind yX3_actingKind, Cond.initialized RX3, Cond.code yX3_actingKind cX3_actingKind 3 (some .int), Cond.methodLink RX3 22 yX3_kind, Cond.instanceMethod yX3_kind, Cond.selects RX3 yX3_kind yX3_kind, Cond.code yX3_kind cX3_kind 2 (some .int), Cond.fieldLink RX3 18 "LaneNets$Net" "comparers" "[I", Cond.methodLink RX3 26 yX3_switchOf, Cond.instanceMethod yX3_switchOf, Cond.selects RX3 yX3_switchOf yX3_switchOf, Cond.code yX3_switchOf cX3_switchOf 2 (some .int), Cond.methodLink RX4 48 yX3_low, Cond.instanceMethod yX3_low, Cond.selects RX3 yX3_low yX3_low, Cond.code yX3_low cX3_low 2 (some .int), Cond.methodLink RX4 51 yX3_high, Cond.instanceMethod yX3_high, Cond.selects RX3 yX3_high yX3_high, Cond.code yX3_high cX3_high 2 (some .int)]
def wsX5_out_r3 : List Cond := [Cond.methodLink RX4 54 yX4_step, Cond.instanceMethod yX4_step, Cond.selects RX4 yX4_step yX4_step, Cond.code yX4_step cX4_step 6 none, Cond.methodLink RX4 34 yX4_changing, Cond.instanceMethod yX4_changing, Cond.selects RX4 yX4_changing yX4_changing, Cond.code yX4_changing cX4_changing 4 (some .long), Cond.methodLink RX5 183 yX4_numberOf, Cond.instanceMethod yX4_numberOf, Cond.selects RX4 yX4_numberOf yX4_numberOf, Cond.code yX4_numberOf cX4_numberOf 5 (some .int)]
def wsX5_out : List Cond := .code yX5_out cX5_out 2 (some .int) :: ((wsX5_out_r1 ++ (wsX5_out_r2 ++ wsX5_out_r3)) ++ wsX50 ++ wsX30 ++ wsX40)
def wsX5_failingRows_r1 : List Cond := [Cond.fieldLink RX5 36 "LaneNets" "rows" "LLaneNets$Rows;", Cond.fieldLink RX5 10 "LaneNets" "net" "LLaneNets$Net;", Cond.fieldLink RX5 160 "LaneNets$Net" "lanes" "I", Cond.methodLink RX5 176 yX4_start, Cond.instanceMethod yX4_start, Cond.selects RX4 yX4_start yX4_start, Cond.initialized RX4, Cond.code yX4_start cX4_start 4 none, Cond.constantLong RX4 25 (-1), Cond.fieldLink RX4 15 "LaneNets$Rows" "all" "J", Cond.fieldLink RX4 9 "LaneNets$Rows" "columns" "[J", Cond.methodLink RX4 27 yX4_firstColumn, Cond.static yX4_firstColumn, Cond.code yX4_firstColumn cX4_firstColumn 2 (some .long), Cond.fieldLink RX4 31 "LaneNets$Rows" "FIRST_COLUMNS" "[J", Cond.methodLink RX5 179 yX4_pass, Cond.instanceMethod yX4_pass, Cond.selects RX4 yX4_pass yX4_pass, Cond.code yX4_pass cX4_pass 4 none, Cond.fieldLink RX4 38 "LaneNets$Net" "count" "I", Cond.methodLink RX4 44 yX3_actingKind, Cond.instanceMethod yX3_actingKind, Cond.selects RX3 yX3_actingKind yX3_actingKind, Cond.initialized RX3]
def wsX5_failingRows_r2 : List Cond := [Cond.code yX3_actingKind cX3_actingKind 3 (some .int), Cond.methodLink RX3 22 yX3_kind, Cond.instanceMethod yX3_kind, Cond.selects RX3 yX3_kind yX3_kind, Cond.code yX3_kind cX3_kind 2 (some .int), Cond.fieldLink RX3 18 "LaneNets$Net" "comparers" "[I", Cond.methodLink RX3 26 yX3_switchOf, Cond.instanceMethod yX3_switchOf, Cond.selects RX3 yX3_switchOf yX3_switchOf, Cond.code yX3_switchOf cX3_switchOf 2 (some .int), Cond.methodLink RX4 48 yX3_low, Cond.instanceMethod yX3_low, Cond.selects RX3 yX3_low yX3_low, Cond.code yX3_low cX3_low 2 (some .int), Cond.methodLink RX4 51 yX3_high, Cond.instanceMethod yX3_high, Cond.selects RX3 yX3_high yX3_high, Cond.code yX3_high cX3_high 2 (some .int), Cond.methodLink RX4 54 yX4_step, Cond.instanceMethod yX4_step, Cond.selects RX4 yX4_step yX4_step, Cond.code yX4_step cX4_step 6 none, Cond.methodLink RX4 34 yX4_changing, Cond.instanceMethod yX4_changing]
def wsX5_failingRows_r3 : List Cond := [Cond.selects RX4 yX4_changing yX4_changing, Cond.code yX4_changing cX4_changing 4 (some .long), Cond.methodLink RX5 205 yX4_falling, Cond.instanceMethod yX4_falling, Cond.selects RX4 yX4_falling yX4_falling, Cond.code yX4_falling cX4_falling 6 (some .long)]
def wsX5_failingRows : List Cond := .code yX5_failingRows cX5_failingRows 3 (some .long) :: ((wsX5_failingRows_r1 ++ (wsX5_failingRows_r2 ++ wsX5_failingRows_r3)) ++ wsX50 ++ wsX30 ++ wsX40)
def wsX5_leastFailing_r1 : List Cond := [Cond.fieldLink RX5 10 "LaneNets" "net" "LLaneNets$Net;", Cond.fieldLink RX5 160 "LaneNets$Net" "lanes" "I", Cond.methodLink RX5 192 yX4_blocks, Cond.static yX4_blocks, Cond.initialized RX4, Cond.code yX4_blocks cX4_blocks 1 (some .int), Cond.methodLink RX5 195 yX5_failingRows, Cond.instanceMethod yX5_failingRows, Cond.selects RX5 yX5_failingRows yX5_failingRows, Cond.initialized RX5, Cond.code yX5_failingRows cX5_failingRows 3 (some .long), Cond.fieldLink RX5 36 "LaneNets" "rows" "LLaneNets$Rows;", Cond.methodLink RX5 176 yX4_start, Cond.instanceMethod yX4_start, Cond.selects RX4 yX4_start yX4_start, Cond.code yX4_start cX4_start 4 none, Cond.constantLong RX4 25 (-1), Cond.fieldLink RX4 15 "LaneNets$Rows" "all" "J", Cond.fieldLink RX4 9 "LaneNets$Rows" "columns" "[J", Cond.methodLink RX4 27 yX4_firstColumn, Cond.static yX4_firstColumn, Cond.code yX4_firstColumn cX4_firstColumn 2 (some .long), Cond.fieldLink RX4 31 "LaneNets$Rows" "FIRST_COLUMNS" "[J", Cond.methodLink RX5 179 yX4_pass]
def wsX5_leastFailing_r2 : List Cond := [Cond.instanceMethod yX4_pass, Cond.selects RX4 yX4_pass yX4_pass, Cond.code yX4_pass cX4_pass 4 none, Cond.fieldLink RX4 38 "LaneNets$Net" "count" "I", Cond.methodLink RX4 44 yX3_actingKind, Cond.instanceMethod yX3_actingKind, Cond.selects RX3 yX3_actingKind yX3_actingKind, Cond.initialized RX3, Cond.code yX3_actingKind cX3_actingKind 3 (some .int), Cond.methodLink RX3 22 yX3_kind, Cond.instanceMethod yX3_kind, Cond.selects RX3 yX3_kind yX3_kind, Cond.code yX3_kind cX3_kind 2 (some .int), Cond.fieldLink RX3 18 "LaneNets$Net" "comparers" "[I", Cond.methodLink RX3 26 yX3_switchOf, Cond.instanceMethod yX3_switchOf, Cond.selects RX3 yX3_switchOf yX3_switchOf, Cond.code yX3_switchOf cX3_switchOf 2 (some .int), Cond.methodLink RX4 48 yX3_low, Cond.instanceMethod yX3_low, Cond.selects RX3 yX3_low yX3_low, Cond.code yX3_low cX3_low 2 (some .int), Cond.methodLink RX4 51 yX3_high, Cond.instanceMethod yX3_high]
def wsX5_leastFailing_r3 : List Cond := [Cond.selects RX3 yX3_high yX3_high, Cond.code yX3_high cX3_high 2 (some .int), Cond.methodLink RX4 54 yX4_step, Cond.instanceMethod yX4_step, Cond.selects RX4 yX4_step yX4_step, Cond.code yX4_step cX4_step 6 none, Cond.methodLink RX4 34 yX4_changing, Cond.instanceMethod yX4_changing, Cond.selects RX4 yX4_changing yX4_changing, Cond.code yX4_changing cX4_changing 4 (some .long), Cond.methodLink RX5 205 yX4_falling, Cond.instanceMethod yX4_falling, Cond.selects RX4 yX4_falling yX4_falling, Cond.code yX4_falling cX4_falling 6 (some .long), Cond.methodLink RX5 264 yX4_leastOf, Cond.static yX4_leastOf, Cond.code yX4_leastOf cX4_leastOf 3 (some .int), Cond.methodLink RX4 19 yJ13_bitCount_95d88, Cond.static yJ13_bitCount_95d88, Cond.initialized RJ13, Cond.code yJ13_bitCount_95d88 cJ13_bitCount_95d88 2 (some .int), Cond.constantLong RJ13 314 (6148914691236517205), Cond.constantLong RJ13 316 (3689348814741910323), Cond.constantLong RJ13 318 (1085102592571150095)]
def wsX5_leastFailing : List Cond := .code yX5_leastFailing cX5_leastFailing 5 (some .int) :: ((wsX5_leastFailing_r1 ++ (wsX5_leastFailing_r2 ++ wsX5_leastFailing_r3)) ++ wsX50 ++ wsX30 ++ wsX40)
def wsX5_sorts_r1 : List Cond := [Cond.methodLink RX5 186 yX5_leastFailing, Cond.instanceMethod yX5_leastFailing, Cond.selects RX5 yX5_leastFailing yX5_leastFailing, Cond.initialized RX5, Cond.code yX5_leastFailing cX5_leastFailing 5 (some .int), Cond.fieldLink RX5 10 "LaneNets" "net" "LLaneNets$Net;", Cond.fieldLink RX5 160 "LaneNets$Net" "lanes" "I", Cond.methodLink RX5 192 yX4_blocks, Cond.static yX4_blocks, Cond.initialized RX4, Cond.code yX4_blocks cX4_blocks 1 (some .int), Cond.methodLink RX5 195 yX5_failingRows, Cond.instanceMethod yX5_failingRows, Cond.selects RX5 yX5_failingRows yX5_failingRows, Cond.code yX5_failingRows cX5_failingRows 3 (some .long), Cond.fieldLink RX5 36 "LaneNets" "rows" "LLaneNets$Rows;", Cond.methodLink RX5 176 yX4_start, Cond.instanceMethod yX4_start, Cond.selects RX4 yX4_start yX4_start, Cond.code yX4_start cX4_start 4 none, Cond.constantLong RX4 25 (-1), Cond.fieldLink RX4 15 "LaneNets$Rows" "all" "J", Cond.fieldLink RX4 9 "LaneNets$Rows" "columns" "[J", Cond.methodLink RX4 27 yX4_firstColumn]
def wsX5_sorts_r2 : List Cond := [Cond.static yX4_firstColumn, Cond.code yX4_firstColumn cX4_firstColumn 2 (some .long), Cond.fieldLink RX4 31 "LaneNets$Rows" "FIRST_COLUMNS" "[J", Cond.methodLink RX5 179 yX4_pass, Cond.instanceMethod yX4_pass, Cond.selects RX4 yX4_pass yX4_pass, Cond.code yX4_pass cX4_pass 4 none, Cond.fieldLink RX4 38 "LaneNets$Net" "count" "I", Cond.methodLink RX4 44 yX3_actingKind, Cond.instanceMethod yX3_actingKind, Cond.selects RX3 yX3_actingKind yX3_actingKind, Cond.initialized RX3, Cond.code yX3_actingKind cX3_actingKind 3 (some .int), Cond.methodLink RX3 22 yX3_kind, Cond.instanceMethod yX3_kind, Cond.selects RX3 yX3_kind yX3_kind, Cond.code yX3_kind cX3_kind 2 (some .int), Cond.fieldLink RX3 18 "LaneNets$Net" "comparers" "[I", Cond.methodLink RX3 26 yX3_switchOf, Cond.instanceMethod yX3_switchOf, Cond.selects RX3 yX3_switchOf yX3_switchOf, Cond.code yX3_switchOf cX3_switchOf 2 (some .int), Cond.methodLink RX4 48 yX3_low, Cond.instanceMethod yX3_low]
def wsX5_sorts_r3 : List Cond := [Cond.selects RX3 yX3_low yX3_low, Cond.code yX3_low cX3_low 2 (some .int), Cond.methodLink RX4 51 yX3_high, Cond.instanceMethod yX3_high, Cond.selects RX3 yX3_high yX3_high, Cond.code yX3_high cX3_high 2 (some .int), Cond.methodLink RX4 54 yX4_step, Cond.instanceMethod yX4_step, Cond.selects RX4 yX4_step yX4_step, Cond.code yX4_step cX4_step 6 none, Cond.methodLink RX4 34 yX4_changing, Cond.instanceMethod yX4_changing, Cond.selects RX4 yX4_changing yX4_changing, Cond.code yX4_changing cX4_changing 4 (some .long), Cond.methodLink RX5 205 yX4_falling, Cond.instanceMethod yX4_falling, Cond.selects RX4 yX4_falling yX4_falling, Cond.code yX4_falling cX4_falling 6 (some .long), Cond.methodLink RX5 264 yX4_leastOf, Cond.static yX4_leastOf, Cond.code yX4_leastOf cX4_leastOf 3 (some .int), Cond.methodLink RX4 19 yJ13_bitCount_95d88, Cond.static yJ13_bitCount_95d88, Cond.initialized RJ13]
def wsX5_sorts_r4 : List Cond := [Cond.code yJ13_bitCount_95d88 cJ13_bitCount_95d88 2 (some .int), Cond.constantLong RJ13 314 (6148914691236517205), Cond.constantLong RJ13 316 (3689348814741910323), Cond.constantLong RJ13 318 (1085102592571150095)]
def wsX5_sorts : List Cond := .code yX5_sorts cX5_sorts 1 (some .int) :: ((wsX5_sorts_r1 ++ (wsX5_sorts_r2 ++ (wsX5_sorts_r3 ++ wsX5_sorts_r4))) ++ wsX50 ++ wsX30 ++ wsX40)
def wsX5_toldOrFinding : List Cond := .code yX5_toldOrFinding cX5_toldOrFinding 2 (some .int) :: ([.methodLink RX5 69 yX5_finding, .instanceMethod yX5_finding, .selects RX5 yX5_finding yX5_finding, .initialized RX5, .code yX5_finding cX5_finding 2 (some .int), .fieldLink RX5 61 "LaneNets" "findings" "I"] ++ wsX50)
def wsX5_fails_r1 : List Cond := [Cond.fieldLink RX5 10 "LaneNets" "net" "LLaneNets$Net;", Cond.fieldLink RX5 160 "LaneNets$Net" "lanes" "I", Cond.methodLink RX5 186 yX5_leastFailing, Cond.instanceMethod yX5_leastFailing, Cond.selects RX5 yX5_leastFailing yX5_leastFailing, Cond.initialized RX5, Cond.code yX5_leastFailing cX5_leastFailing 5 (some .int), Cond.methodLink RX5 192 yX4_blocks, Cond.static yX4_blocks, Cond.initialized RX4, Cond.code yX4_blocks cX4_blocks 1 (some .int), Cond.methodLink RX5 195 yX5_failingRows, Cond.instanceMethod yX5_failingRows, Cond.selects RX5 yX5_failingRows yX5_failingRows, Cond.code yX5_failingRows cX5_failingRows 3 (some .long), Cond.fieldLink RX5 36 "LaneNets" "rows" "LLaneNets$Rows;", Cond.methodLink RX5 176 yX4_start, Cond.instanceMethod yX4_start, Cond.selects RX4 yX4_start yX4_start, Cond.code yX4_start cX4_start 4 none, Cond.constantLong RX4 25 (-1), Cond.fieldLink RX4 15 "LaneNets$Rows" "all" "J", Cond.fieldLink RX4 9 "LaneNets$Rows" "columns" "[J", Cond.methodLink RX4 27 yX4_firstColumn]
def wsX5_fails_r2 : List Cond := [Cond.static yX4_firstColumn, Cond.code yX4_firstColumn cX4_firstColumn 2 (some .long), Cond.fieldLink RX4 31 "LaneNets$Rows" "FIRST_COLUMNS" "[J", Cond.methodLink RX5 179 yX4_pass, Cond.instanceMethod yX4_pass, Cond.selects RX4 yX4_pass yX4_pass, Cond.code yX4_pass cX4_pass 4 none, Cond.fieldLink RX4 38 "LaneNets$Net" "count" "I", Cond.methodLink RX4 44 yX3_actingKind, Cond.instanceMethod yX3_actingKind, Cond.selects RX3 yX3_actingKind yX3_actingKind, Cond.initialized RX3, Cond.code yX3_actingKind cX3_actingKind 3 (some .int), Cond.methodLink RX3 22 yX3_kind, Cond.instanceMethod yX3_kind, Cond.selects RX3 yX3_kind yX3_kind, Cond.code yX3_kind cX3_kind 2 (some .int), Cond.fieldLink RX3 18 "LaneNets$Net" "comparers" "[I", Cond.methodLink RX3 26 yX3_switchOf, Cond.instanceMethod yX3_switchOf, Cond.selects RX3 yX3_switchOf yX3_switchOf, Cond.code yX3_switchOf cX3_switchOf 2 (some .int), Cond.methodLink RX4 48 yX3_low, Cond.instanceMethod yX3_low]
def wsX5_fails_r3 : List Cond := [Cond.selects RX3 yX3_low yX3_low, Cond.code yX3_low cX3_low 2 (some .int), Cond.methodLink RX4 51 yX3_high, Cond.instanceMethod yX3_high, Cond.selects RX3 yX3_high yX3_high, Cond.code yX3_high cX3_high 2 (some .int), Cond.methodLink RX4 54 yX4_step, Cond.instanceMethod yX4_step, Cond.selects RX4 yX4_step yX4_step, Cond.code yX4_step cX4_step 6 none, Cond.methodLink RX4 34 yX4_changing, Cond.instanceMethod yX4_changing, Cond.selects RX4 yX4_changing yX4_changing, Cond.code yX4_changing cX4_changing 4 (some .long), Cond.methodLink RX5 205 yX4_falling, Cond.instanceMethod yX4_falling, Cond.selects RX4 yX4_falling yX4_falling, Cond.code yX4_falling cX4_falling 6 (some .long), Cond.methodLink RX5 264 yX4_leastOf, Cond.static yX4_leastOf, Cond.code yX4_leastOf cX4_leastOf 3 (some .int), Cond.methodLink RX4 19 yJ13_bitCount_95d88, Cond.static yJ13_bitCount_95d88, Cond.initialized RJ13]
def wsX5_fails_r4 : List Cond := [Cond.code yJ13_bitCount_95d88 cJ13_bitCount_95d88 2 (some .int), Cond.constantLong RJ13 314 (6148914691236517205), Cond.constantLong RJ13 316 (3689348814741910323), Cond.constantLong RJ13 318 (1085102592571150095), Cond.methodLink RX5 189 yX5_toldOrFinding, Cond.instanceMethod yX5_toldOrFinding, Cond.selects RX5 yX5_toldOrFinding yX5_toldOrFinding, Cond.code yX5_toldOrFinding cX5_toldOrFinding 2 (some .int), Cond.methodLink RX5 69 yX5_finding, Cond.instanceMethod yX5_finding, Cond.selects RX5 yX5_finding yX5_finding, Cond.code yX5_finding cX5_finding 2 (some .int), Cond.fieldLink RX5 61 "LaneNets" "findings" "I", Cond.methodLink RX5 199 yJ13_bitCount_95d88]
def wsX5_fails : List Cond := .code yX5_fails cX5_fails 4 (some .int) :: ((wsX5_fails_r1 ++ (wsX5_fails_r2 ++ (wsX5_fails_r3 ++ wsX5_fails_r4))) ++ wsX50 ++ wsX30 ++ wsX40)
def wsX5_merges_r1 : List Cond := [Cond.fieldLink RX5 10 "LaneNets" "net" "LLaneNets$Net;", Cond.fieldLink RX5 160 "LaneNets$Net" "lanes" "I", Cond.fieldLink RX5 36 "LaneNets" "rows" "LLaneNets$Rows;", Cond.constantLong RX5 208 (-1), Cond.methodLink RX5 69 yX5_finding, Cond.instanceMethod yX5_finding, Cond.selects RX5 yX5_finding yX5_finding, Cond.initialized RX5, Cond.code yX5_finding cX5_finding 2 (some .int), Cond.fieldLink RX5 61 "LaneNets" "findings" "I", Cond.methodLink RX5 192 yX4_blocks, Cond.static yX4_blocks, Cond.initialized RX4, Cond.code yX4_blocks cX4_blocks 1 (some .int), Cond.methodLink RX5 176 yX4_start, Cond.instanceMethod yX4_start, Cond.selects RX4 yX4_start yX4_start, Cond.code yX4_start cX4_start 4 none, Cond.constantLong RX4 25 (-1), Cond.fieldLink RX4 15 "LaneNets$Rows" "all" "J", Cond.fieldLink RX4 9 "LaneNets$Rows" "columns" "[J", Cond.methodLink RX4 27 yX4_firstColumn, Cond.static yX4_firstColumn, Cond.code yX4_firstColumn cX4_firstColumn 2 (some .long)]
def wsX5_merges_r2 : List Cond := [Cond.fieldLink RX4 31 "LaneNets$Rows" "FIRST_COLUMNS" "[J", Cond.methodLink RX5 205 yX4_falling, Cond.instanceMethod yX4_falling, Cond.selects RX4 yX4_falling yX4_falling, Cond.code yX4_falling cX4_falling 6 (some .long), Cond.methodLink RX5 179 yX4_pass, Cond.instanceMethod yX4_pass, Cond.selects RX4 yX4_pass yX4_pass, Cond.code yX4_pass cX4_pass 4 none, Cond.fieldLink RX4 38 "LaneNets$Net" "count" "I", Cond.methodLink RX4 44 yX3_actingKind, Cond.instanceMethod yX3_actingKind, Cond.selects RX3 yX3_actingKind yX3_actingKind, Cond.initialized RX3, Cond.code yX3_actingKind cX3_actingKind 3 (some .int), Cond.methodLink RX3 22 yX3_kind, Cond.instanceMethod yX3_kind, Cond.selects RX3 yX3_kind yX3_kind, Cond.code yX3_kind cX3_kind 2 (some .int), Cond.fieldLink RX3 18 "LaneNets$Net" "comparers" "[I", Cond.methodLink RX3 26 yX3_switchOf, Cond.instanceMethod yX3_switchOf, Cond.selects RX3 yX3_switchOf yX3_switchOf, Cond.code yX3_switchOf cX3_switchOf 2 (some .int)]
def wsX5_merges_r3 : List Cond := [Cond.methodLink RX4 48 yX3_low, Cond.instanceMethod yX3_low, Cond.selects RX3 yX3_low yX3_low, Cond.code yX3_low cX3_low 2 (some .int), Cond.methodLink RX4 51 yX3_high, Cond.instanceMethod yX3_high, Cond.selects RX3 yX3_high yX3_high, Cond.code yX3_high cX3_high 2 (some .int), Cond.methodLink RX4 54 yX4_step, Cond.instanceMethod yX4_step, Cond.selects RX4 yX4_step yX4_step, Cond.code yX4_step cX4_step 6 none, Cond.methodLink RX4 34 yX4_changing, Cond.instanceMethod yX4_changing, Cond.selects RX4 yX4_changing yX4_changing, Cond.code yX4_changing cX4_changing 4 (some .long)]
def wsX5_merges : List Cond := .code yX5_merges cX5_merges 5 (some .int) :: ((wsX5_merges_r1 ++ (wsX5_merges_r2 ++ wsX5_merges_r3)) ++ wsX50 ++ wsX30 ++ wsX40)
def wsX5_busyComparers_r1 : List Cond := [Cond.fieldLink RX5 10 "LaneNets" "net" "LLaneNets$Net;", Cond.fieldLink RX5 160 "LaneNets$Net" "lanes" "I", Cond.fieldLink RX5 36 "LaneNets" "rows" "LLaneNets$Rows;", Cond.fieldLink RX5 77 "LaneNets$Net" "count" "I", Cond.methodLink RX5 192 yX4_blocks, Cond.static yX4_blocks, Cond.initialized RX4, Cond.code yX4_blocks cX4_blocks 1 (some .int), Cond.methodLink RX5 176 yX4_start, Cond.instanceMethod yX4_start, Cond.selects RX4 yX4_start yX4_start, Cond.code yX4_start cX4_start 4 none, Cond.constantLong RX4 25 (-1), Cond.fieldLink RX4 15 "LaneNets$Rows" "all" "J", Cond.fieldLink RX4 9 "LaneNets$Rows" "columns" "[J", Cond.methodLink RX4 27 yX4_firstColumn, Cond.static yX4_firstColumn, Cond.code yX4_firstColumn cX4_firstColumn 2 (some .long), Cond.fieldLink RX4 31 "LaneNets$Rows" "FIRST_COLUMNS" "[J", Cond.methodLink RX5 163 yX3_actingKind, Cond.instanceMethod yX3_actingKind, Cond.selects RX3 yX3_actingKind yX3_actingKind, Cond.initialized RX3, Cond.code yX3_actingKind cX3_actingKind 3 (some .int)]
def wsX5_busyComparers_r2 : List Cond := [Cond.methodLink RX3 22 yX3_kind, Cond.instanceMethod yX3_kind, Cond.selects RX3 yX3_kind yX3_kind, Cond.code yX3_kind cX3_kind 2 (some .int), Cond.fieldLink RX3 18 "LaneNets$Net" "comparers" "[I", Cond.methodLink RX3 26 yX3_switchOf, Cond.instanceMethod yX3_switchOf, Cond.selects RX3 yX3_switchOf yX3_switchOf, Cond.code yX3_switchOf cX3_switchOf 2 (some .int), Cond.methodLink RX5 97 yX3_low, Cond.instanceMethod yX3_low, Cond.selects RX3 yX3_low yX3_low, Cond.code yX3_low cX3_low 2 (some .int), Cond.methodLink RX5 100 yX3_high, Cond.instanceMethod yX3_high, Cond.selects RX3 yX3_high yX3_high, Cond.code yX3_high cX3_high 2 (some .int), Cond.methodLink RX5 286 yX4_changing, Cond.instanceMethod yX4_changing, Cond.selects RX4 yX4_changing yX4_changing, Cond.code yX4_changing cX4_changing 4 (some .long), Cond.methodLink RX5 271 yX4_step, Cond.instanceMethod yX4_step, Cond.selects RX4 yX4_step yX4_step]
def wsX5_busyComparers_r3 : List Cond := [Cond.code yX4_step cX4_step 6 none, Cond.methodLink RX4 34 yX4_changing]
def wsX5_busyComparers : List Cond := .code yX5_busyComparers cX5_busyComparers 6 (some .long) :: ((wsX5_busyComparers_r1 ++ (wsX5_busyComparers_r2 ++ wsX5_busyComparers_r3)) ++ wsX50 ++ wsX30 ++ wsX40)
def wsX5_isIn : List Cond := .code yX5_isIn cX5_isIn 3 (some .boolean) :: ([])
def wsX5_idle_r1 : List Cond := [Cond.fieldLink RX5 10 "LaneNets" "net" "LLaneNets$Net;", Cond.methodLink RX5 91 yX3_has, Cond.instanceMethod yX3_has, Cond.selects RX3 yX3_has yX3_has, Cond.initialized RX3, Cond.code yX3_has cX3_has 2 (some .boolean), Cond.fieldLink RX3 15 "LaneNets$Net" "count" "I", Cond.methodLink RX5 69 yX5_finding, Cond.instanceMethod yX5_finding, Cond.selects RX5 yX5_finding yX5_finding, Cond.initialized RX5, Cond.code yX5_finding cX5_finding 2 (some .int), Cond.fieldLink RX5 61 "LaneNets" "findings" "I", Cond.methodLink RX5 210 yX5_busyComparers, Cond.instanceMethod yX5_busyComparers, Cond.selects RX5 yX5_busyComparers yX5_busyComparers, Cond.code yX5_busyComparers cX5_busyComparers 6 (some .long), Cond.fieldLink RX5 160 "LaneNets$Net" "lanes" "I", Cond.fieldLink RX5 36 "LaneNets" "rows" "LLaneNets$Rows;", Cond.fieldLink RX5 77 "LaneNets$Net" "count" "I", Cond.methodLink RX5 192 yX4_blocks, Cond.static yX4_blocks, Cond.initialized RX4, Cond.code yX4_blocks cX4_blocks 1 (some .int)]
def wsX5_idle_r2 : List Cond := [Cond.methodLink RX5 176 yX4_start, Cond.instanceMethod yX4_start, Cond.selects RX4 yX4_start yX4_start, Cond.code yX4_start cX4_start 4 none, Cond.constantLong RX4 25 (-1), Cond.fieldLink RX4 15 "LaneNets$Rows" "all" "J", Cond.fieldLink RX4 9 "LaneNets$Rows" "columns" "[J", Cond.methodLink RX4 27 yX4_firstColumn, Cond.static yX4_firstColumn, Cond.code yX4_firstColumn cX4_firstColumn 2 (some .long), Cond.fieldLink RX4 31 "LaneNets$Rows" "FIRST_COLUMNS" "[J", Cond.methodLink RX5 163 yX3_actingKind, Cond.instanceMethod yX3_actingKind, Cond.selects RX3 yX3_actingKind yX3_actingKind, Cond.code yX3_actingKind cX3_actingKind 3 (some .int), Cond.methodLink RX3 22 yX3_kind, Cond.instanceMethod yX3_kind, Cond.selects RX3 yX3_kind yX3_kind, Cond.code yX3_kind cX3_kind 2 (some .int), Cond.fieldLink RX3 18 "LaneNets$Net" "comparers" "[I", Cond.methodLink RX3 26 yX3_switchOf, Cond.instanceMethod yX3_switchOf, Cond.selects RX3 yX3_switchOf yX3_switchOf, Cond.code yX3_switchOf cX3_switchOf 2 (some .int)]
def wsX5_idle_r3 : List Cond := [Cond.methodLink RX5 97 yX3_low, Cond.instanceMethod yX3_low, Cond.selects RX3 yX3_low yX3_low, Cond.code yX3_low cX3_low 2 (some .int), Cond.methodLink RX5 100 yX3_high, Cond.instanceMethod yX3_high, Cond.selects RX3 yX3_high yX3_high, Cond.code yX3_high cX3_high 2 (some .int), Cond.methodLink RX5 286 yX4_changing, Cond.instanceMethod yX4_changing, Cond.selects RX4 yX4_changing yX4_changing, Cond.code yX4_changing cX4_changing 4 (some .long), Cond.methodLink RX5 271 yX4_step, Cond.instanceMethod yX4_step, Cond.selects RX4 yX4_step yX4_step, Cond.code yX4_step cX4_step 6 none, Cond.methodLink RX4 34 yX4_changing, Cond.methodLink RX5 214 yX5_isIn, Cond.static yX5_isIn, Cond.code yX5_isIn cX5_isIn 3 (some .boolean)]
def wsX5_idle : List Cond := .code yX5_idle cX5_idle 2 (some .int) :: ((wsX5_idle_r1 ++ (wsX5_idle_r2 ++ wsX5_idle_r3)) ++ wsX50 ++ wsX30 ++ wsX40)
def wsX5_drop_r1 : List Cond := [Cond.fieldLink RX5 23 "LaneNets" "history" "LLaneNets$History;", Cond.fieldLink RX5 10 "LaneNets" "net" "LLaneNets$Net;", Cond.fieldLink RX5 77 "LaneNets$Net" "count" "I", Cond.fieldLink RX5 218 "LaneNets$Net" "comparers" "[I", Cond.methodLink RX5 210 yX5_busyComparers, Cond.instanceMethod yX5_busyComparers, Cond.selects RX5 yX5_busyComparers yX5_busyComparers, Cond.initialized RX5, Cond.code yX5_busyComparers cX5_busyComparers 6 (some .long), Cond.fieldLink RX5 160 "LaneNets$Net" "lanes" "I", Cond.fieldLink RX5 36 "LaneNets" "rows" "LLaneNets$Rows;", Cond.methodLink RX5 192 yX4_blocks, Cond.static yX4_blocks, Cond.initialized RX4, Cond.code yX4_blocks cX4_blocks 1 (some .int), Cond.methodLink RX5 176 yX4_start, Cond.instanceMethod yX4_start, Cond.selects RX4 yX4_start yX4_start, Cond.code yX4_start cX4_start 4 none, Cond.constantLong RX4 25 (-1), Cond.fieldLink RX4 15 "LaneNets$Rows" "all" "J", Cond.fieldLink RX4 9 "LaneNets$Rows" "columns" "[J", Cond.methodLink RX4 27 yX4_firstColumn, Cond.static yX4_firstColumn]
def wsX5_drop_r2 : List Cond := [Cond.code yX4_firstColumn cX4_firstColumn 2 (some .long), Cond.fieldLink RX4 31 "LaneNets$Rows" "FIRST_COLUMNS" "[J", Cond.methodLink RX5 163 yX3_actingKind, Cond.instanceMethod yX3_actingKind, Cond.selects RX3 yX3_actingKind yX3_actingKind, Cond.initialized RX3, Cond.code yX3_actingKind cX3_actingKind 3 (some .int), Cond.methodLink RX3 22 yX3_kind, Cond.instanceMethod yX3_kind, Cond.selects RX3 yX3_kind yX3_kind, Cond.code yX3_kind cX3_kind 2 (some .int), Cond.fieldLink RX3 18 "LaneNets$Net" "comparers" "[I", Cond.methodLink RX3 26 yX3_switchOf, Cond.instanceMethod yX3_switchOf, Cond.selects RX3 yX3_switchOf yX3_switchOf, Cond.code yX3_switchOf cX3_switchOf 2 (some .int), Cond.methodLink RX5 97 yX3_low, Cond.instanceMethod yX3_low, Cond.selects RX3 yX3_low yX3_low, Cond.code yX3_low cX3_low 2 (some .int), Cond.methodLink RX5 100 yX3_high, Cond.instanceMethod yX3_high, Cond.selects RX3 yX3_high yX3_high, Cond.code yX3_high cX3_high 2 (some .int)]
def wsX5_drop_r3 : List Cond := [Cond.methodLink RX5 286 yX4_changing, Cond.instanceMethod yX4_changing, Cond.selects RX4 yX4_changing yX4_changing, Cond.code yX4_changing cX4_changing 4 (some .long), Cond.methodLink RX5 271 yX4_step, Cond.instanceMethod yX4_step, Cond.selects RX4 yX4_step yX4_step, Cond.code yX4_step cX4_step 6 none, Cond.methodLink RX4 34 yX4_changing, Cond.methodLink RX5 73 yX2_remember, Cond.instanceMethod yX2_remember, Cond.selects RX2 yX2_remember yX2_remember, Cond.initialized RX2, Cond.code yX2_remember cX2_remember 2 none, Cond.fieldLink RX2 11 "LaneNets$History" "nets" "[LLaneNets$Net;", Cond.fieldLink RX2 17 "LaneNets$History" "free" "I", Cond.fieldLink RX2 21 "LaneNets$History" "held" "I", Cond.methodLink RX2 29 Lib.Math.min.name, Cond.static Lib.Math.min.name, Cond.initialized "java/lang/Math", Cond.code Lib.Math.min.name Lib.Math.min.code 2 (some .int), Cond.methodLink RX2 25 yX3_become, Cond.instanceMethod yX3_become, Cond.selects RX3 yX3_become yX3_become]
def wsX5_drop_r4 : List Cond := [Cond.code yX3_become cX3_become 2 none, Cond.fieldLink RX3 9 "LaneNets$Net" "lanes" "I", Cond.fieldLink RX3 15 "LaneNets$Net" "count" "I", Cond.methodLink RX3 33 arraycopyName, Cond.native arraycopyName, Cond.static arraycopyName, Cond.initialized "java/lang/System", Cond.methodLink RX5 214 yX5_isIn, Cond.static yX5_isIn, Cond.code yX5_isIn cX5_isIn 3 (some .boolean)]
def wsX5_drop : List Cond := .code yX5_drop cX5_drop 5 (some .int) :: ((wsX5_drop_r1 ++ (wsX5_drop_r2 ++ (wsX5_drop_r3 ++ wsX5_drop_r4))) ++ wsX50 ++ wsX30 ++ wsX40 ++ wsX20)
def wsX5_changesPlaces : List Cond := .code yX5_changesPlaces cX5_changesPlaces 3 (some .boolean) :: ([])
def wsX5_turn_r1 : List Cond := [Cond.fieldLink RX5 10 "LaneNets" "net" "LLaneNets$Net;", Cond.fieldLink RX5 77 "LaneNets$Net" "count" "I", Cond.fieldLink RX5 23 "LaneNets" "history" "LLaneNets$History;", Cond.fieldLink RX5 50 "LaneNets" "laneNumbers" "[I", Cond.methodLink RX5 221 Lib.Math.min.name, Cond.static Lib.Math.min.name, Cond.initialized "java/lang/Math", Cond.code Lib.Math.min.name Lib.Math.min.code 2 (some .int), Cond.methodLink RX5 226 Lib.Math.max.name, Cond.static Lib.Math.max.name, Cond.code Lib.Math.max.name Lib.Math.max.code 2 (some .int), Cond.methodLink RX5 163 yX3_actingKind, Cond.instanceMethod yX3_actingKind, Cond.selects RX3 yX3_actingKind yX3_actingKind, Cond.initialized RX3, Cond.code yX3_actingKind cX3_actingKind 3 (some .int), Cond.methodLink RX3 22 yX3_kind, Cond.instanceMethod yX3_kind, Cond.selects RX3 yX3_kind yX3_kind, Cond.code yX3_kind cX3_kind 2 (some .int), Cond.fieldLink RX3 18 "LaneNets$Net" "comparers" "[I", Cond.methodLink RX3 26 yX3_switchOf, Cond.instanceMethod yX3_switchOf, Cond.selects RX3 yX3_switchOf yX3_switchOf]
def wsX5_turn_r2 : List Cond := [Cond.code yX3_switchOf cX3_switchOf 2 (some .int), Cond.methodLink RX5 69 yX5_finding, Cond.instanceMethod yX5_finding, Cond.selects RX5 yX5_finding yX5_finding, Cond.initialized RX5, Cond.code yX5_finding cX5_finding 2 (some .int), Cond.fieldLink RX5 61 "LaneNets" "findings" "I", Cond.methodLink RX5 73 yX2_remember, Cond.instanceMethod yX2_remember, Cond.selects RX2 yX2_remember yX2_remember, Cond.initialized RX2, Cond.code yX2_remember cX2_remember 2 none, Cond.fieldLink RX2 11 "LaneNets$History" "nets" "[LLaneNets$Net;", Cond.fieldLink RX2 17 "LaneNets$History" "free" "I", Cond.fieldLink RX2 21 "LaneNets$History" "held" "I", Cond.methodLink RX2 29 Lib.Math.min.name, Cond.methodLink RX2 25 yX3_become, Cond.instanceMethod yX3_become, Cond.selects RX3 yX3_become yX3_become, Cond.code yX3_become cX3_become 2 none, Cond.fieldLink RX3 9 "LaneNets$Net" "lanes" "I", Cond.fieldLink RX3 15 "LaneNets$Net" "count" "I", Cond.methodLink RX3 33 arraycopyName, Cond.native arraycopyName]
def wsX5_turn_r3 : List Cond := [Cond.static arraycopyName, Cond.initialized "java/lang/System", Cond.methodLink RX5 97 yX3_low, Cond.instanceMethod yX3_low, Cond.selects RX3 yX3_low yX3_low, Cond.code yX3_low cX3_low 2 (some .int), Cond.methodLink RX5 100 yX3_high, Cond.instanceMethod yX3_high, Cond.selects RX3 yX3_high yX3_high, Cond.code yX3_high cX3_high 2 (some .int), Cond.methodLink RX5 103 yX3_write, Cond.instanceMethod yX3_write, Cond.selects RX3 yX3_write yX3_write, Cond.code yX3_write cX3_write 6 none, Cond.methodLink RX5 229 yX5_changesPlaces, Cond.static yX5_changesPlaces, Cond.code yX5_changesPlaces cX5_changesPlaces 3 (some .boolean)]
def wsX5_turn : List Cond := .code yX5_turn cX5_turn 8 (some .int) :: ((wsX5_turn_r1 ++ (wsX5_turn_r2 ++ wsX5_turn_r3)) ++ wsX50 ++ wsX30 ++ wsX20)
def wsX5_mirror_r1 : List Cond := [Cond.fieldLink RX5 23 "LaneNets" "history" "LLaneNets$History;", Cond.fieldLink RX5 10 "LaneNets" "net" "LLaneNets$Net;", Cond.fieldLink RX5 160 "LaneNets$Net" "lanes" "I", Cond.fieldLink RX5 77 "LaneNets$Net" "count" "I", Cond.methodLink RX5 73 yX2_remember, Cond.instanceMethod yX2_remember, Cond.selects RX2 yX2_remember yX2_remember, Cond.initialized RX2, Cond.code yX2_remember cX2_remember 2 none, Cond.fieldLink RX2 11 "LaneNets$History" "nets" "[LLaneNets$Net;", Cond.fieldLink RX2 17 "LaneNets$History" "free" "I", Cond.fieldLink RX2 21 "LaneNets$History" "held" "I", Cond.methodLink RX2 29 Lib.Math.min.name, Cond.static Lib.Math.min.name, Cond.initialized "java/lang/Math", Cond.code Lib.Math.min.name Lib.Math.min.code 2 (some .int), Cond.methodLink RX2 25 yX3_become, Cond.instanceMethod yX3_become, Cond.selects RX3 yX3_become yX3_become, Cond.initialized RX3, Cond.code yX3_become cX3_become 2 none, Cond.fieldLink RX3 9 "LaneNets$Net" "lanes" "I", Cond.fieldLink RX3 15 "LaneNets$Net" "count" "I", Cond.fieldLink RX3 18 "LaneNets$Net" "comparers" "[I"]
def wsX5_mirror_r2 : List Cond := [Cond.methodLink RX3 33 arraycopyName, Cond.native arraycopyName, Cond.static arraycopyName, Cond.initialized "java/lang/System", Cond.methodLink RX5 100 yX3_high, Cond.instanceMethod yX3_high, Cond.selects RX3 yX3_high yX3_high, Cond.code yX3_high cX3_high 2 (some .int), Cond.methodLink RX5 97 yX3_low, Cond.instanceMethod yX3_low, Cond.selects RX3 yX3_low yX3_low, Cond.code yX3_low cX3_low 2 (some .int), Cond.methodLink RX5 232 yX3_move, Cond.instanceMethod yX3_move, Cond.selects RX3 yX3_move yX3_move, Cond.code yX3_move cX3_move 5 none, Cond.methodLink RX3 22 yX3_kind, Cond.instanceMethod yX3_kind, Cond.selects RX3 yX3_kind yX3_kind, Cond.code yX3_kind cX3_kind 2 (some .int)]
def wsX5_mirror : List Cond := .code yX5_mirror cX5_mirror 3 (some .int) :: ((wsX5_mirror_r1 ++ wsX5_mirror_r2) ++ wsX50 ++ wsX30 ++ wsX20)
def wsX5_findCompletion_r1 : List Cond := [Cond.fieldLink RX5 36 "LaneNets" "rows" "LLaneNets$Rows;", Cond.fieldLink RX5 10 "LaneNets" "net" "LLaneNets$Net;", Cond.fieldLink RX5 160 "LaneNets$Net" "lanes" "I", Cond.fieldLink RX5 46 "LaneNets" "completion" "LLaneNets$Completion;", Cond.methodLink RX5 176 yX4_start, Cond.instanceMethod yX4_start, Cond.selects RX4 yX4_start yX4_start, Cond.initialized RX4, Cond.code yX4_start cX4_start 4 none, Cond.constantLong RX4 25 (-1), Cond.fieldLink RX4 15 "LaneNets$Rows" "all" "J", Cond.fieldLink RX4 9 "LaneNets$Rows" "columns" "[J", Cond.methodLink RX4 27 yX4_firstColumn, Cond.static yX4_firstColumn, Cond.code yX4_firstColumn cX4_firstColumn 2 (some .long), Cond.fieldLink RX4 31 "LaneNets$Rows" "FIRST_COLUMNS" "[J", Cond.methodLink RX5 179 yX4_pass, Cond.instanceMethod yX4_pass, Cond.selects RX4 yX4_pass yX4_pass, Cond.code yX4_pass cX4_pass 4 none, Cond.fieldLink RX4 38 "LaneNets$Net" "count" "I", Cond.methodLink RX4 44 yX3_actingKind, Cond.instanceMethod yX3_actingKind, Cond.selects RX3 yX3_actingKind yX3_actingKind]
def wsX5_findCompletion_r2 : List Cond := [Cond.initialized RX3, Cond.code yX3_actingKind cX3_actingKind 3 (some .int), Cond.methodLink RX3 22 yX3_kind, Cond.instanceMethod yX3_kind, Cond.selects RX3 yX3_kind yX3_kind, Cond.code yX3_kind cX3_kind 2 (some .int), Cond.fieldLink RX3 18 "LaneNets$Net" "comparers" "[I", Cond.methodLink RX3 26 yX3_switchOf, Cond.instanceMethod yX3_switchOf, Cond.selects RX3 yX3_switchOf yX3_switchOf, Cond.code yX3_switchOf cX3_switchOf 2 (some .int), Cond.methodLink RX4 48 yX3_low, Cond.instanceMethod yX3_low, Cond.selects RX3 yX3_low yX3_low, Cond.code yX3_low cX3_low 2 (some .int), Cond.methodLink RX4 51 yX3_high, Cond.instanceMethod yX3_high, Cond.selects RX3 yX3_high yX3_high, Cond.code yX3_high cX3_high 2 (some .int), Cond.methodLink RX4 54 yX4_step, Cond.instanceMethod yX4_step, Cond.selects RX4 yX4_step yX4_step, Cond.code yX4_step cX4_step 6 none, Cond.methodLink RX4 34 yX4_changing]
def wsX5_findCompletion_r3 : List Cond := [Cond.instanceMethod yX4_changing, Cond.selects RX4 yX4_changing yX4_changing, Cond.code yX4_changing cX4_changing 4 (some .long), Cond.methodLink RX5 290 yX4_packed, Cond.instanceMethod yX4_packed, Cond.selects RX4 yX4_packed yX4_packed, Cond.code yX4_packed cX4_packed 5 (some .long), Cond.methodLink RX5 294 yX0_find, Cond.instanceMethod yX0_find, Cond.selects RX0 yX0_find yX0_find, Cond.initialized RX0, Cond.code yX0_find cX0_find 6 none, Cond.fieldLink RX0 19 "LaneNets$Completion" "knownLanes" "I", Cond.fieldLink RX0 22 "LaneNets$Completion" "knownColumns" "J", Cond.fieldLink RX0 9 "LaneNets$Completion" "pairs" "[I", Cond.fieldLink RX0 15 "LaneNets$Completion" "fewest" "I", Cond.methodLink RX0 26 yX0_completes, Cond.static yX0_completes, Cond.code yX0_completes cX0_completes 10 (some .boolean), Cond.methodLink RX0 30 yX0_areRising, Cond.static yX0_areRising, Cond.code yX0_areRising cX0_areRising 4 (some .boolean), Cond.constantLong RX0 44 (-1), Cond.methodLink RX0 40 yX0_column]
def wsX5_findCompletion_r4 : List Cond := [Cond.static yX0_column, Cond.code yX0_column cX0_column 3 (some .long), Cond.constantLong RX0 38 (65535), Cond.methodLink RX0 34 yX0_compared, Cond.static yX0_compared, Cond.code yX0_compared cX0_compared 6 (some .long)]
def wsX5_findCompletion : List Cond := .code yX5_findCompletion cX5_findCompletion 1 none :: ((wsX5_findCompletion_r1 ++ (wsX5_findCompletion_r2 ++ (wsX5_findCompletion_r3 ++ wsX5_findCompletion_r4))) ++ wsX50 ++ wsX30 ++ wsX40 ++ wsX00)
def wsX5_missing_r1 : List Cond := [Cond.fieldLink RX5 10 "LaneNets" "net" "LLaneNets$Net;", Cond.fieldLink RX5 160 "LaneNets$Net" "lanes" "I", Cond.fieldLink RX5 46 "LaneNets" "completion" "LLaneNets$Completion;", Cond.fieldLink RX5 238 "LaneNets$Completion" "fewest" "I", Cond.methodLink RX5 69 yX5_finding, Cond.instanceMethod yX5_finding, Cond.selects RX5 yX5_finding yX5_finding, Cond.initialized RX5, Cond.code yX5_finding cX5_finding 2 (some .int), Cond.fieldLink RX5 61 "LaneNets" "findings" "I", Cond.methodLink RX5 235 yX5_findCompletion, Cond.instanceMethod yX5_findCompletion, Cond.selects RX5 yX5_findCompletion yX5_findCompletion, Cond.code yX5_findCompletion cX5_findCompletion 1 none, Cond.fieldLink RX5 36 "LaneNets" "rows" "LLaneNets$Rows;", Cond.methodLink RX5 176 yX4_start, Cond.instanceMethod yX4_start, Cond.selects RX4 yX4_start yX4_start, Cond.initialized RX4, Cond.code yX4_start cX4_start 4 none, Cond.constantLong RX4 25 (-1), Cond.fieldLink RX4 15 "LaneNets$Rows" "all" "J", Cond.fieldLink RX4 9 "LaneNets$Rows" "columns" "[J", Cond.methodLink RX4 27 yX4_firstColumn]
def wsX5_missing_r2 : List Cond := [Cond.static yX4_firstColumn, Cond.code yX4_firstColumn cX4_firstColumn 2 (some .long), Cond.fieldLink RX4 31 "LaneNets$Rows" "FIRST_COLUMNS" "[J", Cond.methodLink RX5 179 yX4_pass, Cond.instanceMethod yX4_pass, Cond.selects RX4 yX4_pass yX4_pass, Cond.code yX4_pass cX4_pass 4 none, Cond.fieldLink RX4 38 "LaneNets$Net" "count" "I", Cond.methodLink RX4 44 yX3_actingKind, Cond.instanceMethod yX3_actingKind, Cond.selects RX3 yX3_actingKind yX3_actingKind, Cond.initialized RX3, Cond.code yX3_actingKind cX3_actingKind 3 (some .int), Cond.methodLink RX3 22 yX3_kind, Cond.instanceMethod yX3_kind, Cond.selects RX3 yX3_kind yX3_kind, Cond.code yX3_kind cX3_kind 2 (some .int), Cond.fieldLink RX3 18 "LaneNets$Net" "comparers" "[I", Cond.methodLink RX3 26 yX3_switchOf, Cond.instanceMethod yX3_switchOf, Cond.selects RX3 yX3_switchOf yX3_switchOf, Cond.code yX3_switchOf cX3_switchOf 2 (some .int), Cond.methodLink RX4 48 yX3_low, Cond.instanceMethod yX3_low]
def wsX5_missing_r3 : List Cond := [Cond.selects RX3 yX3_low yX3_low, Cond.code yX3_low cX3_low 2 (some .int), Cond.methodLink RX4 51 yX3_high, Cond.instanceMethod yX3_high, Cond.selects RX3 yX3_high yX3_high, Cond.code yX3_high cX3_high 2 (some .int), Cond.methodLink RX4 54 yX4_step, Cond.instanceMethod yX4_step, Cond.selects RX4 yX4_step yX4_step, Cond.code yX4_step cX4_step 6 none, Cond.methodLink RX4 34 yX4_changing, Cond.instanceMethod yX4_changing, Cond.selects RX4 yX4_changing yX4_changing, Cond.code yX4_changing cX4_changing 4 (some .long), Cond.methodLink RX5 290 yX4_packed, Cond.instanceMethod yX4_packed, Cond.selects RX4 yX4_packed yX4_packed, Cond.code yX4_packed cX4_packed 5 (some .long), Cond.methodLink RX5 294 yX0_find, Cond.instanceMethod yX0_find, Cond.selects RX0 yX0_find yX0_find, Cond.initialized RX0, Cond.code yX0_find cX0_find 6 none, Cond.fieldLink RX0 19 "LaneNets$Completion" "knownLanes" "I"]
def wsX5_missing_r4 : List Cond := [Cond.fieldLink RX0 22 "LaneNets$Completion" "knownColumns" "J", Cond.fieldLink RX0 9 "LaneNets$Completion" "pairs" "[I", Cond.fieldLink RX0 15 "LaneNets$Completion" "fewest" "I", Cond.methodLink RX0 26 yX0_completes, Cond.static yX0_completes, Cond.code yX0_completes cX0_completes 10 (some .boolean), Cond.methodLink RX0 30 yX0_areRising, Cond.static yX0_areRising, Cond.code yX0_areRising cX0_areRising 4 (some .boolean), Cond.constantLong RX0 44 (-1), Cond.methodLink RX0 40 yX0_column, Cond.static yX0_column, Cond.code yX0_column cX0_column 3 (some .long), Cond.constantLong RX0 38 (65535), Cond.methodLink RX0 34 yX0_compared, Cond.static yX0_compared, Cond.code yX0_compared cX0_compared 6 (some .long)]
def wsX5_missing : List Cond := .code yX5_missing cX5_missing 1 (some .int) :: ((wsX5_missing_r1 ++ (wsX5_missing_r2 ++ (wsX5_missing_r3 ++ wsX5_missing_r4))) ++ wsX50 ++ wsX30 ++ wsX00 ++ wsX40)
def wsX5_next_r1 : List Cond := [Cond.fieldLink RX5 10 "LaneNets" "net" "LLaneNets$Net;", Cond.fieldLink RX5 160 "LaneNets$Net" "lanes" "I", Cond.fieldLink RX5 46 "LaneNets" "completion" "LLaneNets$Completion;", Cond.fieldLink RX5 238 "LaneNets$Completion" "fewest" "I", Cond.fieldLink RX5 241 "LaneNets$Completion" "pairs" "[I", Cond.methodLink RX5 69 yX5_finding, Cond.instanceMethod yX5_finding, Cond.selects RX5 yX5_finding yX5_finding, Cond.initialized RX5, Cond.code yX5_finding cX5_finding 2 (some .int), Cond.fieldLink RX5 61 "LaneNets" "findings" "I", Cond.methodLink RX5 235 yX5_findCompletion, Cond.instanceMethod yX5_findCompletion, Cond.selects RX5 yX5_findCompletion yX5_findCompletion, Cond.code yX5_findCompletion cX5_findCompletion 1 none, Cond.fieldLink RX5 36 "LaneNets" "rows" "LLaneNets$Rows;", Cond.methodLink RX5 176 yX4_start, Cond.instanceMethod yX4_start, Cond.selects RX4 yX4_start yX4_start, Cond.initialized RX4, Cond.code yX4_start cX4_start 4 none, Cond.constantLong RX4 25 (-1), Cond.fieldLink RX4 15 "LaneNets$Rows" "all" "J", Cond.fieldLink RX4 9 "LaneNets$Rows" "columns" "[J"]
def wsX5_next_r2 : List Cond := [Cond.methodLink RX4 27 yX4_firstColumn, Cond.static yX4_firstColumn, Cond.code yX4_firstColumn cX4_firstColumn 2 (some .long), Cond.fieldLink RX4 31 "LaneNets$Rows" "FIRST_COLUMNS" "[J", Cond.methodLink RX5 179 yX4_pass, Cond.instanceMethod yX4_pass, Cond.selects RX4 yX4_pass yX4_pass, Cond.code yX4_pass cX4_pass 4 none, Cond.fieldLink RX4 38 "LaneNets$Net" "count" "I", Cond.methodLink RX4 44 yX3_actingKind, Cond.instanceMethod yX3_actingKind, Cond.selects RX3 yX3_actingKind yX3_actingKind, Cond.initialized RX3, Cond.code yX3_actingKind cX3_actingKind 3 (some .int), Cond.methodLink RX3 22 yX3_kind, Cond.instanceMethod yX3_kind, Cond.selects RX3 yX3_kind yX3_kind, Cond.code yX3_kind cX3_kind 2 (some .int), Cond.fieldLink RX3 18 "LaneNets$Net" "comparers" "[I", Cond.methodLink RX3 26 yX3_switchOf, Cond.instanceMethod yX3_switchOf, Cond.selects RX3 yX3_switchOf yX3_switchOf, Cond.code yX3_switchOf cX3_switchOf 2 (some .int), Cond.methodLink RX4 48 yX3_low]
def wsX5_next_r3 : List Cond := [Cond.instanceMethod yX3_low, Cond.selects RX3 yX3_low yX3_low, Cond.code yX3_low cX3_low 2 (some .int), Cond.methodLink RX4 51 yX3_high, Cond.instanceMethod yX3_high, Cond.selects RX3 yX3_high yX3_high, Cond.code yX3_high cX3_high 2 (some .int), Cond.methodLink RX4 54 yX4_step, Cond.instanceMethod yX4_step, Cond.selects RX4 yX4_step yX4_step, Cond.code yX4_step cX4_step 6 none, Cond.methodLink RX4 34 yX4_changing, Cond.instanceMethod yX4_changing, Cond.selects RX4 yX4_changing yX4_changing, Cond.code yX4_changing cX4_changing 4 (some .long), Cond.methodLink RX5 290 yX4_packed, Cond.instanceMethod yX4_packed, Cond.selects RX4 yX4_packed yX4_packed, Cond.code yX4_packed cX4_packed 5 (some .long), Cond.methodLink RX5 294 yX0_find, Cond.instanceMethod yX0_find, Cond.selects RX0 yX0_find yX0_find, Cond.initialized RX0, Cond.code yX0_find cX0_find 6 none]
def wsX5_next_r4 : List Cond := [Cond.fieldLink RX0 19 "LaneNets$Completion" "knownLanes" "I", Cond.fieldLink RX0 22 "LaneNets$Completion" "knownColumns" "J", Cond.fieldLink RX0 9 "LaneNets$Completion" "pairs" "[I", Cond.fieldLink RX0 15 "LaneNets$Completion" "fewest" "I", Cond.methodLink RX0 26 yX0_completes, Cond.static yX0_completes, Cond.code yX0_completes cX0_completes 10 (some .boolean), Cond.methodLink RX0 30 yX0_areRising, Cond.static yX0_areRising, Cond.code yX0_areRising cX0_areRising 4 (some .boolean), Cond.constantLong RX0 44 (-1), Cond.methodLink RX0 40 yX0_column, Cond.static yX0_column, Cond.code yX0_column cX0_column 3 (some .long), Cond.constantLong RX0 38 (65535), Cond.methodLink RX0 34 yX0_compared, Cond.static yX0_compared, Cond.code yX0_compared cX0_compared 6 (some .long)]
def wsX5_next : List Cond := .code yX5_next cX5_next 2 (some .int) :: ((wsX5_next_r1 ++ (wsX5_next_r2 ++ (wsX5_next_r3 ++ wsX5_next_r4))) ++ wsX50 ++ wsX30 ++ wsX00 ++ wsX40)
def wsX5_bears_r1 : List Cond := [Cond.fieldLink RX5 10 "LaneNets" "net" "LLaneNets$Net;", Cond.fieldLink RX5 77 "LaneNets$Net" "count" "I", Cond.methodLink RX5 244 yX5_sorts, Cond.instanceMethod yX5_sorts, Cond.selects RX5 yX5_sorts yX5_sorts, Cond.initialized RX5, Cond.code yX5_sorts cX5_sorts 1 (some .int), Cond.methodLink RX5 186 yX5_leastFailing, Cond.instanceMethod yX5_leastFailing, Cond.selects RX5 yX5_leastFailing yX5_leastFailing, Cond.code yX5_leastFailing cX5_leastFailing 5 (some .int), Cond.fieldLink RX5 160 "LaneNets$Net" "lanes" "I", Cond.methodLink RX5 192 yX4_blocks, Cond.static yX4_blocks, Cond.initialized RX4, Cond.code yX4_blocks cX4_blocks 1 (some .int), Cond.methodLink RX5 195 yX5_failingRows, Cond.instanceMethod yX5_failingRows, Cond.selects RX5 yX5_failingRows yX5_failingRows, Cond.code yX5_failingRows cX5_failingRows 3 (some .long), Cond.fieldLink RX5 36 "LaneNets" "rows" "LLaneNets$Rows;", Cond.methodLink RX5 176 yX4_start, Cond.instanceMethod yX4_start, Cond.selects RX4 yX4_start yX4_start]
def wsX5_bears_r2 : List Cond := [Cond.code yX4_start cX4_start 4 none, Cond.constantLong RX4 25 (-1), Cond.fieldLink RX4 15 "LaneNets$Rows" "all" "J", Cond.fieldLink RX4 9 "LaneNets$Rows" "columns" "[J", Cond.methodLink RX4 27 yX4_firstColumn, Cond.static yX4_firstColumn, Cond.code yX4_firstColumn cX4_firstColumn 2 (some .long), Cond.fieldLink RX4 31 "LaneNets$Rows" "FIRST_COLUMNS" "[J", Cond.methodLink RX5 179 yX4_pass, Cond.instanceMethod yX4_pass, Cond.selects RX4 yX4_pass yX4_pass, Cond.code yX4_pass cX4_pass 4 none, Cond.fieldLink RX4 38 "LaneNets$Net" "count" "I", Cond.methodLink RX4 44 yX3_actingKind, Cond.instanceMethod yX3_actingKind, Cond.selects RX3 yX3_actingKind yX3_actingKind, Cond.initialized RX3, Cond.code yX3_actingKind cX3_actingKind 3 (some .int), Cond.methodLink RX3 22 yX3_kind, Cond.instanceMethod yX3_kind, Cond.selects RX3 yX3_kind yX3_kind, Cond.code yX3_kind cX3_kind 2 (some .int), Cond.fieldLink RX3 18 "LaneNets$Net" "comparers" "[I", Cond.methodLink RX3 26 yX3_switchOf]
def wsX5_bears_r3 : List Cond := [Cond.instanceMethod yX3_switchOf, Cond.selects RX3 yX3_switchOf yX3_switchOf, Cond.code yX3_switchOf cX3_switchOf 2 (some .int), Cond.methodLink RX4 48 yX3_low, Cond.instanceMethod yX3_low, Cond.selects RX3 yX3_low yX3_low, Cond.code yX3_low cX3_low 2 (some .int), Cond.methodLink RX4 51 yX3_high, Cond.instanceMethod yX3_high, Cond.selects RX3 yX3_high yX3_high, Cond.code yX3_high cX3_high 2 (some .int), Cond.methodLink RX4 54 yX4_step, Cond.instanceMethod yX4_step, Cond.selects RX4 yX4_step yX4_step, Cond.code yX4_step cX4_step 6 none, Cond.methodLink RX4 34 yX4_changing, Cond.instanceMethod yX4_changing, Cond.selects RX4 yX4_changing yX4_changing, Cond.code yX4_changing cX4_changing 4 (some .long), Cond.methodLink RX5 205 yX4_falling, Cond.instanceMethod yX4_falling, Cond.selects RX4 yX4_falling yX4_falling, Cond.code yX4_falling cX4_falling 6 (some .long), Cond.methodLink RX5 264 yX4_leastOf]
def wsX5_bears_r4 : List Cond := [Cond.static yX4_leastOf, Cond.code yX4_leastOf cX4_leastOf 3 (some .int), Cond.methodLink RX4 19 yJ13_bitCount_95d88, Cond.static yJ13_bitCount_95d88, Cond.initialized RJ13, Cond.code yJ13_bitCount_95d88 cJ13_bitCount_95d88 2 (some .int), Cond.constantLong RJ13 314 (6148914691236517205), Cond.constantLong RJ13 316 (3689348814741910323), Cond.constantLong RJ13 318 (1085102592571150095)]
def wsX5_bears : List Cond := .code yX5_bears cX5_bears 2 (some .int) :: ((wsX5_bears_r1 ++ (wsX5_bears_r2 ++ (wsX5_bears_r3 ++ wsX5_bears_r4))) ++ wsX50 ++ wsX30 ++ wsX40)
def wsX5_weak_r1 : List Cond := [Cond.fieldLink RX5 10 "LaneNets" "net" "LLaneNets$Net;", Cond.methodLink RX5 91 yX3_has, Cond.instanceMethod yX3_has, Cond.selects RX3 yX3_has yX3_has, Cond.initialized RX3, Cond.code yX3_has cX3_has 2 (some .boolean), Cond.fieldLink RX3 15 "LaneNets$Net" "count" "I", Cond.methodLink RX5 69 yX5_finding, Cond.instanceMethod yX5_finding, Cond.selects RX5 yX5_finding yX5_finding, Cond.initialized RX5, Cond.code yX5_finding cX5_finding 2 (some .int), Cond.fieldLink RX5 61 "LaneNets" "findings" "I", Cond.methodLink RX5 186 yX5_leastFailing, Cond.instanceMethod yX5_leastFailing, Cond.selects RX5 yX5_leastFailing yX5_leastFailing, Cond.code yX5_leastFailing cX5_leastFailing 5 (some .int), Cond.fieldLink RX5 160 "LaneNets$Net" "lanes" "I", Cond.methodLink RX5 192 yX4_blocks, Cond.static yX4_blocks, Cond.initialized RX4, Cond.code yX4_blocks cX4_blocks 1 (some .int), Cond.methodLink RX5 195 yX5_failingRows, Cond.instanceMethod yX5_failingRows]
def wsX5_weak_r2 : List Cond := [Cond.selects RX5 yX5_failingRows yX5_failingRows, Cond.code yX5_failingRows cX5_failingRows 3 (some .long), Cond.fieldLink RX5 36 "LaneNets" "rows" "LLaneNets$Rows;", Cond.methodLink RX5 176 yX4_start, Cond.instanceMethod yX4_start, Cond.selects RX4 yX4_start yX4_start, Cond.code yX4_start cX4_start 4 none, Cond.constantLong RX4 25 (-1), Cond.fieldLink RX4 15 "LaneNets$Rows" "all" "J", Cond.fieldLink RX4 9 "LaneNets$Rows" "columns" "[J", Cond.methodLink RX4 27 yX4_firstColumn, Cond.static yX4_firstColumn, Cond.code yX4_firstColumn cX4_firstColumn 2 (some .long), Cond.fieldLink RX4 31 "LaneNets$Rows" "FIRST_COLUMNS" "[J", Cond.methodLink RX5 179 yX4_pass, Cond.instanceMethod yX4_pass, Cond.selects RX4 yX4_pass yX4_pass, Cond.code yX4_pass cX4_pass 4 none, Cond.fieldLink RX4 38 "LaneNets$Net" "count" "I", Cond.methodLink RX4 44 yX3_actingKind, Cond.instanceMethod yX3_actingKind, Cond.selects RX3 yX3_actingKind yX3_actingKind, Cond.code yX3_actingKind cX3_actingKind 3 (some .int), Cond.methodLink RX3 22 yX3_kind]
def wsX5_weak_r3 : List Cond := [Cond.instanceMethod yX3_kind, Cond.selects RX3 yX3_kind yX3_kind, Cond.code yX3_kind cX3_kind 2 (some .int), Cond.fieldLink RX3 18 "LaneNets$Net" "comparers" "[I", Cond.methodLink RX3 26 yX3_switchOf, Cond.instanceMethod yX3_switchOf, Cond.selects RX3 yX3_switchOf yX3_switchOf, Cond.code yX3_switchOf cX3_switchOf 2 (some .int), Cond.methodLink RX4 48 yX3_low, Cond.instanceMethod yX3_low, Cond.selects RX3 yX3_low yX3_low, Cond.code yX3_low cX3_low 2 (some .int), Cond.methodLink RX4 51 yX3_high, Cond.instanceMethod yX3_high, Cond.selects RX3 yX3_high yX3_high, Cond.code yX3_high cX3_high 2 (some .int), Cond.methodLink RX4 54 yX4_step, Cond.instanceMethod yX4_step, Cond.selects RX4 yX4_step yX4_step, Cond.code yX4_step cX4_step 6 none, Cond.methodLink RX4 34 yX4_changing, Cond.instanceMethod yX4_changing, Cond.selects RX4 yX4_changing yX4_changing, Cond.code yX4_changing cX4_changing 4 (some .long)]
def wsX5_weak_r4 : List Cond := [Cond.methodLink RX5 205 yX4_falling, Cond.instanceMethod yX4_falling, Cond.selects RX4 yX4_falling yX4_falling, Cond.code yX4_falling cX4_falling 6 (some .long), Cond.methodLink RX5 264 yX4_leastOf, Cond.static yX4_leastOf, Cond.code yX4_leastOf cX4_leastOf 3 (some .int), Cond.methodLink RX4 19 yJ13_bitCount_95d88, Cond.static yJ13_bitCount_95d88, Cond.initialized RJ13, Cond.code yJ13_bitCount_95d88 cJ13_bitCount_95d88 2 (some .int), Cond.constantLong RJ13 314 (6148914691236517205), Cond.constantLong RJ13 316 (3689348814741910323), Cond.constantLong RJ13 318 (1085102592571150095), Cond.methodLink RX5 189 yX5_toldOrFinding, Cond.instanceMethod yX5_toldOrFinding, Cond.selects RX5 yX5_toldOrFinding yX5_toldOrFinding, Cond.code yX5_toldOrFinding cX5_toldOrFinding 2 (some .int)]
def wsX5_weak : List Cond := .code yX5_weak cX5_weak 2 (some .int) :: ((wsX5_weak_r1 ++ (wsX5_weak_r2 ++ (wsX5_weak_r3 ++ wsX5_weak_r4))) ++ wsX50 ++ wsX30 ++ wsX40)
def wsX5_isSlot : List Cond := .code yX5_isSlot cX5_isSlot 1 (some .boolean) :: ([])
def wsX5_keep : List Cond := .code yX5_keep cX5_keep 2 (some .int) :: ([.fieldLink RX5 16 "LaneNets" "slots" "[LLaneNets$Net;", .fieldLink RX5 10 "LaneNets" "net" "LLaneNets$Net;", .fieldLink RX5 77 "LaneNets$Net" "count" "I", .methodLink RX5 248 yX5_isSlot, .static yX5_isSlot, .initialized RX5, .code yX5_isSlot cX5_isSlot 1 (some .boolean), .methodLink RX5 69 yX5_finding, .instanceMethod yX5_finding, .selects RX5 yX5_finding yX5_finding, .code yX5_finding cX5_finding 2 (some .int), .fieldLink RX5 61 "LaneNets" "findings" "I", .methodLink RX5 251 yX3_become, .instanceMethod yX3_become, .selects RX3 yX3_become yX3_become, .initialized RX3, .code yX3_become cX3_become 2 none, .fieldLink RX3 9 "LaneNets$Net" "lanes" "I", .fieldLink RX3 15 "LaneNets$Net" "count" "I", .fieldLink RX3 18 "LaneNets$Net" "comparers" "[I", .methodLink RX3 33 arraycopyName, .native arraycopyName, .static arraycopyName, .initialized "java/lang/System"] ++ wsX50 ++ wsX30)
def wsX5_findingOfSlot : List Cond := .code yX5_findingOfSlot cX5_findingOfSlot 2 (some .int) :: ([.fieldLink RX5 16 "LaneNets" "slots" "[LLaneNets$Net;", .methodLink RX5 248 yX5_isSlot, .static yX5_isSlot, .initialized RX5, .code yX5_isSlot cX5_isSlot 1 (some .boolean), .methodLink RX5 280 yX3_isNone, .instanceMethod yX3_isNone, .selects RX3 yX3_isNone yX3_isNone, .initialized RX3, .code yX3_isNone cX3_isNone 1 (some .boolean), .fieldLink RX3 9 "LaneNets$Net" "lanes" "I"] ++ wsX50 ++ wsX30)
def wsX5_bring_r1 : List Cond := [Cond.fieldLink RX5 23 "LaneNets" "history" "LLaneNets$History;", Cond.fieldLink RX5 10 "LaneNets" "net" "LLaneNets$Net;", Cond.fieldLink RX5 16 "LaneNets" "slots" "[LLaneNets$Net;", Cond.fieldLink RX5 77 "LaneNets$Net" "count" "I", Cond.methodLink RX5 254 yX5_findingOfSlot, Cond.instanceMethod yX5_findingOfSlot, Cond.selects RX5 yX5_findingOfSlot yX5_findingOfSlot, Cond.initialized RX5, Cond.code yX5_findingOfSlot cX5_findingOfSlot 2 (some .int), Cond.methodLink RX5 248 yX5_isSlot, Cond.static yX5_isSlot, Cond.code yX5_isSlot cX5_isSlot 1 (some .boolean), Cond.methodLink RX5 280 yX3_isNone, Cond.instanceMethod yX3_isNone, Cond.selects RX3 yX3_isNone yX3_isNone, Cond.initialized RX3, Cond.code yX3_isNone cX3_isNone 1 (some .boolean), Cond.fieldLink RX3 9 "LaneNets$Net" "lanes" "I", Cond.methodLink RX5 69 yX5_finding, Cond.instanceMethod yX5_finding, Cond.selects RX5 yX5_finding yX5_finding, Cond.code yX5_finding cX5_finding 2 (some .int), Cond.fieldLink RX5 61 "LaneNets" "findings" "I", Cond.methodLink RX5 73 yX2_remember]
def wsX5_bring_r2 : List Cond := [Cond.instanceMethod yX2_remember, Cond.selects RX2 yX2_remember yX2_remember, Cond.initialized RX2, Cond.code yX2_remember cX2_remember 2 none, Cond.fieldLink RX2 11 "LaneNets$History" "nets" "[LLaneNets$Net;", Cond.fieldLink RX2 17 "LaneNets$History" "free" "I", Cond.fieldLink RX2 21 "LaneNets$History" "held" "I", Cond.methodLink RX2 29 Lib.Math.min.name, Cond.static Lib.Math.min.name, Cond.initialized "java/lang/Math", Cond.code Lib.Math.min.name Lib.Math.min.code 2 (some .int), Cond.methodLink RX2 25 yX3_become, Cond.instanceMethod yX3_become, Cond.selects RX3 yX3_become yX3_become, Cond.code yX3_become cX3_become 2 none, Cond.fieldLink RX3 15 "LaneNets$Net" "count" "I", Cond.fieldLink RX3 18 "LaneNets$Net" "comparers" "[I", Cond.methodLink RX3 33 arraycopyName, Cond.native arraycopyName, Cond.static arraycopyName, Cond.initialized "java/lang/System", Cond.methodLink RX5 251 yX3_become]
def wsX5_bring : List Cond := .code yX5_bring cX5_bring 3 (some .int) :: ((wsX5_bring_r1 ++ wsX5_bring_r2) ++ wsX50 ++ wsX30 ++ wsX20)
def wsX5_findingOfFit : List Cond := .code yX5_findingOfFit cX5_findingOfFit 3 (some .int) :: ([.fieldLink RX5 16 "LaneNets" "slots" "[LLaneNets$Net;", .fieldLink RX5 160 "LaneNets$Net" "lanes" "I", .fieldLink RX5 10 "LaneNets" "net" "LLaneNets$Net;", .methodLink RX5 254 yX5_findingOfSlot, .instanceMethod yX5_findingOfSlot, .selects RX5 yX5_findingOfSlot yX5_findingOfSlot, .initialized RX5, .code yX5_findingOfSlot cX5_findingOfSlot 2 (some .int), .methodLink RX5 248 yX5_isSlot, .static yX5_isSlot, .code yX5_isSlot cX5_isSlot 1 (some .boolean), .methodLink RX5 280 yX3_isNone, .instanceMethod yX3_isNone, .selects RX3 yX3_isNone yX3_isNone, .initialized RX3, .code yX3_isNone cX3_isNone 1 (some .boolean), .fieldLink RX3 9 "LaneNets$Net" "lanes" "I"] ++ wsX50 ++ wsX30)
def wsX5_follow_r1 : List Cond := [Cond.fieldLink RX5 16 "LaneNets" "slots" "[LLaneNets$Net;", Cond.fieldLink RX5 10 "LaneNets" "net" "LLaneNets$Net;", Cond.fieldLink RX5 77 "LaneNets$Net" "count" "I", Cond.fieldLink RX5 23 "LaneNets" "history" "LLaneNets$History;", Cond.fieldLink RX5 218 "LaneNets$Net" "comparers" "[I", Cond.methodLink RX5 150 arraycopyName, Cond.native arraycopyName, Cond.static arraycopyName, Cond.initialized "java/lang/System", Cond.methodLink RX5 257 yX5_findingOfFit, Cond.instanceMethod yX5_findingOfFit, Cond.selects RX5 yX5_findingOfFit yX5_findingOfFit, Cond.initialized RX5, Cond.code yX5_findingOfFit cX5_findingOfFit 3 (some .int), Cond.fieldLink RX5 160 "LaneNets$Net" "lanes" "I", Cond.methodLink RX5 254 yX5_findingOfSlot, Cond.instanceMethod yX5_findingOfSlot, Cond.selects RX5 yX5_findingOfSlot yX5_findingOfSlot, Cond.code yX5_findingOfSlot cX5_findingOfSlot 2 (some .int), Cond.methodLink RX5 248 yX5_isSlot, Cond.static yX5_isSlot, Cond.code yX5_isSlot cX5_isSlot 1 (some .boolean), Cond.methodLink RX5 280 yX3_isNone, Cond.instanceMethod yX3_isNone]
def wsX5_follow_r2 : List Cond := [Cond.selects RX3 yX3_isNone yX3_isNone, Cond.initialized RX3, Cond.code yX3_isNone cX3_isNone 1 (some .boolean), Cond.fieldLink RX3 9 "LaneNets$Net" "lanes" "I", Cond.methodLink RX5 69 yX5_finding, Cond.instanceMethod yX5_finding, Cond.selects RX5 yX5_finding yX5_finding, Cond.code yX5_finding cX5_finding 2 (some .int), Cond.fieldLink RX5 61 "LaneNets" "findings" "I", Cond.methodLink RX5 73 yX2_remember, Cond.instanceMethod yX2_remember, Cond.selects RX2 yX2_remember yX2_remember, Cond.initialized RX2, Cond.code yX2_remember cX2_remember 2 none, Cond.fieldLink RX2 11 "LaneNets$History" "nets" "[LLaneNets$Net;", Cond.fieldLink RX2 17 "LaneNets$History" "free" "I", Cond.fieldLink RX2 21 "LaneNets$History" "held" "I", Cond.methodLink RX2 29 Lib.Math.min.name, Cond.static Lib.Math.min.name, Cond.initialized "java/lang/Math", Cond.code Lib.Math.min.name Lib.Math.min.code 2 (some .int), Cond.methodLink RX2 25 yX3_become, Cond.instanceMethod yX3_become, Cond.selects RX3 yX3_become yX3_become]
def wsX5_follow_r3 : List Cond := [Cond.code yX3_become cX3_become 2 none, Cond.fieldLink RX3 15 "LaneNets$Net" "count" "I", Cond.fieldLink RX3 18 "LaneNets$Net" "comparers" "[I", Cond.methodLink RX3 33 arraycopyName]
def wsX5_follow : List Cond := .code yX5_follow cX5_follow 4 (some .int) :: ((wsX5_follow_r1 ++ (wsX5_follow_r2 ++ wsX5_follow_r3)) ++ wsX50 ++ wsX30 ++ wsX20)
def wsX5_unlike_r1 : List Cond := [Cond.fieldLink RX5 10 "LaneNets" "net" "LLaneNets$Net;", Cond.fieldLink RX5 160 "LaneNets$Net" "lanes" "I", Cond.fieldLink RX5 36 "LaneNets" "rows" "LLaneNets$Rows;", Cond.fieldLink RX5 40 "LaneNets" "otherRows" "LLaneNets$Rows;", Cond.fieldLink RX5 16 "LaneNets" "slots" "[LLaneNets$Net;", Cond.methodLink RX5 257 yX5_findingOfFit, Cond.instanceMethod yX5_findingOfFit, Cond.selects RX5 yX5_findingOfFit yX5_findingOfFit, Cond.initialized RX5, Cond.code yX5_findingOfFit cX5_findingOfFit 3 (some .int), Cond.methodLink RX5 254 yX5_findingOfSlot, Cond.instanceMethod yX5_findingOfSlot, Cond.selects RX5 yX5_findingOfSlot yX5_findingOfSlot, Cond.code yX5_findingOfSlot cX5_findingOfSlot 2 (some .int), Cond.methodLink RX5 248 yX5_isSlot, Cond.static yX5_isSlot, Cond.code yX5_isSlot cX5_isSlot 1 (some .boolean), Cond.methodLink RX5 280 yX3_isNone, Cond.instanceMethod yX3_isNone, Cond.selects RX3 yX3_isNone yX3_isNone, Cond.initialized RX3, Cond.code yX3_isNone cX3_isNone 1 (some .boolean), Cond.fieldLink RX3 9 "LaneNets$Net" "lanes" "I", Cond.methodLink RX5 69 yX5_finding]
def wsX5_unlike_r2 : List Cond := [Cond.instanceMethod yX5_finding, Cond.selects RX5 yX5_finding yX5_finding, Cond.code yX5_finding cX5_finding 2 (some .int), Cond.fieldLink RX5 61 "LaneNets" "findings" "I", Cond.methodLink RX5 192 yX4_blocks, Cond.static yX4_blocks, Cond.initialized RX4, Cond.code yX4_blocks cX4_blocks 1 (some .int), Cond.methodLink RX5 176 yX4_start, Cond.instanceMethod yX4_start, Cond.selects RX4 yX4_start yX4_start, Cond.code yX4_start cX4_start 4 none, Cond.constantLong RX4 25 (-1), Cond.fieldLink RX4 15 "LaneNets$Rows" "all" "J", Cond.fieldLink RX4 9 "LaneNets$Rows" "columns" "[J", Cond.methodLink RX4 27 yX4_firstColumn, Cond.static yX4_firstColumn, Cond.code yX4_firstColumn cX4_firstColumn 2 (some .long), Cond.fieldLink RX4 31 "LaneNets$Rows" "FIRST_COLUMNS" "[J", Cond.methodLink RX5 179 yX4_pass, Cond.instanceMethod yX4_pass, Cond.selects RX4 yX4_pass yX4_pass, Cond.code yX4_pass cX4_pass 4 none, Cond.fieldLink RX4 38 "LaneNets$Net" "count" "I"]
def wsX5_unlike_r3 : List Cond := [Cond.methodLink RX4 44 yX3_actingKind, Cond.instanceMethod yX3_actingKind, Cond.selects RX3 yX3_actingKind yX3_actingKind, Cond.code yX3_actingKind cX3_actingKind 3 (some .int), Cond.methodLink RX3 22 yX3_kind, Cond.instanceMethod yX3_kind, Cond.selects RX3 yX3_kind yX3_kind, Cond.code yX3_kind cX3_kind 2 (some .int), Cond.fieldLink RX3 18 "LaneNets$Net" "comparers" "[I", Cond.methodLink RX3 26 yX3_switchOf, Cond.instanceMethod yX3_switchOf, Cond.selects RX3 yX3_switchOf yX3_switchOf, Cond.code yX3_switchOf cX3_switchOf 2 (some .int), Cond.methodLink RX4 48 yX3_low, Cond.instanceMethod yX3_low, Cond.selects RX3 yX3_low yX3_low, Cond.code yX3_low cX3_low 2 (some .int), Cond.methodLink RX4 51 yX3_high, Cond.instanceMethod yX3_high, Cond.selects RX3 yX3_high yX3_high, Cond.code yX3_high cX3_high 2 (some .int), Cond.methodLink RX4 54 yX4_step, Cond.instanceMethod yX4_step, Cond.selects RX4 yX4_step yX4_step]
def wsX5_unlike_r4 : List Cond := [Cond.code yX4_step cX4_step 6 none, Cond.methodLink RX4 34 yX4_changing, Cond.instanceMethod yX4_changing, Cond.selects RX4 yX4_changing yX4_changing, Cond.code yX4_changing cX4_changing 4 (some .long), Cond.methodLink RX5 260 yX4_differing, Cond.instanceMethod yX4_differing, Cond.selects RX4 yX4_differing yX4_differing, Cond.code yX4_differing cX4_differing 6 (some .long), Cond.methodLink RX5 264 yX4_leastOf, Cond.static yX4_leastOf, Cond.code yX4_leastOf cX4_leastOf 3 (some .int), Cond.methodLink RX4 19 yJ13_bitCount_95d88, Cond.static yJ13_bitCount_95d88, Cond.initialized RJ13, Cond.code yJ13_bitCount_95d88 cJ13_bitCount_95d88 2 (some .int), Cond.constantLong RJ13 314 (6148914691236517205), Cond.constantLong RJ13 316 (3689348814741910323), Cond.constantLong RJ13 318 (1085102592571150095)]
def wsX5_unlike : List Cond := .code yX5_unlike cX5_unlike 6 (some .int) :: ((wsX5_unlike_r1 ++ (wsX5_unlike_r2 ++ (wsX5_unlike_r3 ++ wsX5_unlike_r4))) ++ wsX50 ++ wsX30 ++ wsX40)
def wsX5_tell : List Cond := .code yX5_tell cX5_tell 2 (some .int) :: ([.fieldLink RX5 57 "LaneNets" "waits" "I", .fieldLink RX5 54 "LaneNets" "waiting" "[I", .methodLink RX5 69 yX5_finding, .instanceMethod yX5_finding, .selects RX5 yX5_finding yX5_finding, .initialized RX5, .code yX5_finding cX5_finding 2 (some .int), .fieldLink RX5 61 "LaneNets" "findings" "I"] ++ wsX50)
def wsX5_areLanePairs : List Cond := .code yX5_areLanePairs cX5_areLanePairs 5 (some .boolean) :: ([.fieldLink RX5 54 "LaneNets" "waiting" "[I", .fieldLink RX5 10 "LaneNets" "net" "LLaneNets$Net;", .methodLink RX5 84 yX3_hasLane, .instanceMethod yX3_hasLane, .selects RX3 yX3_hasLane yX3_hasLane, .initialized RX3, .code yX3_hasLane cX3_hasLane 2 (some .boolean), .fieldLink RX3 9 "LaneNets$Net" "lanes" "I"] ++ wsX50 ++ wsX30)
def wsX5_would_r1 : List Cond := [Cond.fieldLink RX5 57 "LaneNets" "waits" "I", Cond.fieldLink RX5 10 "LaneNets" "net" "LLaneNets$Net;", Cond.fieldLink RX5 160 "LaneNets$Net" "lanes" "I", Cond.fieldLink RX5 36 "LaneNets" "rows" "LLaneNets$Rows;", Cond.fieldLink RX5 54 "LaneNets" "waiting" "[I", Cond.methodLink RX5 69 yX5_finding, Cond.instanceMethod yX5_finding, Cond.selects RX5 yX5_finding yX5_finding, Cond.initialized RX5, Cond.code yX5_finding cX5_finding 2 (some .int), Cond.fieldLink RX5 61 "LaneNets" "findings" "I", Cond.methodLink RX5 268 yX5_areLanePairs, Cond.instanceMethod yX5_areLanePairs, Cond.selects RX5 yX5_areLanePairs yX5_areLanePairs, Cond.code yX5_areLanePairs cX5_areLanePairs 5 (some .boolean), Cond.methodLink RX5 84 yX3_hasLane, Cond.instanceMethod yX3_hasLane, Cond.selects RX3 yX3_hasLane yX3_hasLane, Cond.initialized RX3, Cond.code yX3_hasLane cX3_hasLane 2 (some .boolean), Cond.fieldLink RX3 9 "LaneNets$Net" "lanes" "I", Cond.methodLink RX5 192 yX4_blocks, Cond.static yX4_blocks, Cond.initialized RX4]
def wsX5_would_r2 : List Cond := [Cond.code yX4_blocks cX4_blocks 1 (some .int), Cond.methodLink RX5 176 yX4_start, Cond.instanceMethod yX4_start, Cond.selects RX4 yX4_start yX4_start, Cond.code yX4_start cX4_start 4 none, Cond.constantLong RX4 25 (-1), Cond.fieldLink RX4 15 "LaneNets$Rows" "all" "J", Cond.fieldLink RX4 9 "LaneNets$Rows" "columns" "[J", Cond.methodLink RX4 27 yX4_firstColumn, Cond.static yX4_firstColumn, Cond.code yX4_firstColumn cX4_firstColumn 2 (some .long), Cond.fieldLink RX4 31 "LaneNets$Rows" "FIRST_COLUMNS" "[J", Cond.methodLink RX5 179 yX4_pass, Cond.instanceMethod yX4_pass, Cond.selects RX4 yX4_pass yX4_pass, Cond.code yX4_pass cX4_pass 4 none, Cond.fieldLink RX4 38 "LaneNets$Net" "count" "I", Cond.methodLink RX4 44 yX3_actingKind, Cond.instanceMethod yX3_actingKind, Cond.selects RX3 yX3_actingKind yX3_actingKind, Cond.code yX3_actingKind cX3_actingKind 3 (some .int), Cond.methodLink RX3 22 yX3_kind, Cond.instanceMethod yX3_kind, Cond.selects RX3 yX3_kind yX3_kind]
def wsX5_would_r3 : List Cond := [Cond.code yX3_kind cX3_kind 2 (some .int), Cond.fieldLink RX3 18 "LaneNets$Net" "comparers" "[I", Cond.methodLink RX3 26 yX3_switchOf, Cond.instanceMethod yX3_switchOf, Cond.selects RX3 yX3_switchOf yX3_switchOf, Cond.code yX3_switchOf cX3_switchOf 2 (some .int), Cond.methodLink RX4 48 yX3_low, Cond.instanceMethod yX3_low, Cond.selects RX3 yX3_low yX3_low, Cond.code yX3_low cX3_low 2 (some .int), Cond.methodLink RX4 51 yX3_high, Cond.instanceMethod yX3_high, Cond.selects RX3 yX3_high yX3_high, Cond.code yX3_high cX3_high 2 (some .int), Cond.methodLink RX4 54 yX4_step, Cond.instanceMethod yX4_step, Cond.selects RX4 yX4_step yX4_step, Cond.code yX4_step cX4_step 6 none, Cond.methodLink RX4 34 yX4_changing, Cond.instanceMethod yX4_changing, Cond.selects RX4 yX4_changing yX4_changing, Cond.code yX4_changing cX4_changing 4 (some .long), Cond.methodLink RX5 271 yX4_step, Cond.methodLink RX5 205 yX4_falling]
def wsX5_would_r4 : List Cond := [Cond.instanceMethod yX4_falling, Cond.selects RX4 yX4_falling yX4_falling, Cond.code yX4_falling cX4_falling 6 (some .long)]
def wsX5_would : List Cond := .code yX5_would cX5_would 4 (some .int) :: ((wsX5_would_r1 ++ (wsX5_would_r2 ++ (wsX5_would_r3 ++ wsX5_would_r4))) ++ wsX50 ++ wsX30 ++ wsX40)
def wsX5_undo_r1 : List Cond := [Cond.fieldLink RX5 23 "LaneNets" "history" "LLaneNets$History;", Cond.fieldLink RX5 274 "LaneNets$History" "held" "I", Cond.fieldLink RX5 10 "LaneNets" "net" "LLaneNets$Net;", Cond.methodLink RX5 69 yX5_finding, Cond.instanceMethod yX5_finding, Cond.selects RX5 yX5_finding yX5_finding, Cond.initialized RX5, Cond.code yX5_finding cX5_finding 2 (some .int), Cond.fieldLink RX5 61 "LaneNets" "findings" "I", Cond.methodLink RX5 277 yX2_giveBack, Cond.instanceMethod yX2_giveBack, Cond.selects RX2 yX2_giveBack yX2_giveBack, Cond.initialized RX2, Cond.code yX2_giveBack cX2_giveBack 2 none, Cond.fieldLink RX2 21 "LaneNets$History" "held" "I", Cond.fieldLink RX2 17 "LaneNets$History" "free" "I", Cond.fieldLink RX2 11 "LaneNets$History" "nets" "[LLaneNets$Net;", Cond.methodLink RX2 25 yX3_become, Cond.instanceMethod yX3_become, Cond.selects RX3 yX3_become yX3_become, Cond.initialized RX3, Cond.code yX3_become cX3_become 2 none, Cond.fieldLink RX3 9 "LaneNets$Net" "lanes" "I", Cond.fieldLink RX3 15 "LaneNets$Net" "count" "I"]
def wsX5_undo_r2 : List Cond := [Cond.fieldLink RX3 18 "LaneNets$Net" "comparers" "[I", Cond.methodLink RX3 33 arraycopyName, Cond.native arraycopyName, Cond.static arraycopyName, Cond.initialized "java/lang/System"]
def wsX5_undo : List Cond := .code yX5_undo cX5_undo 1 (some .int) :: ((wsX5_undo_r1 ++ wsX5_undo_r2) ++ wsX50 ++ wsX20 ++ wsX30)
def wsX5_told : List Cond := .code yX5_told cX5_told 2 (some .int) :: ([.fieldLink RX5 10 "LaneNets" "net" "LLaneNets$Net;", .fieldLink RX5 160 "LaneNets$Net" "lanes" "I", .fieldLink RX5 77 "LaneNets$Net" "count" "I", .fieldLink RX5 57 "LaneNets" "waits" "I", .fieldLink RX5 61 "LaneNets" "findings" "I", .methodLink RX5 69 yX5_finding, .instanceMethod yX5_finding, .selects RX5 yX5_finding yX5_finding, .initialized RX5, .code yX5_finding cX5_finding 2 (some .int)] ++ wsX50 ++ wsX30)
def wsX6_init_r1 : List Cond := [Cond.methodLink RX6 1 objectInit, Cond.instanceMethod objectInit, Cond.code objectInit ⟨#[0xb1]⟩ 1 none, Cond.fieldLink RX6 7 "LaneNetsModel" "lanes" "I", Cond.arrayClass .int, Cond.fieldLink RX6 13 "LaneNetsModel" "kinds" "[I", Cond.fieldLink RX6 17 "LaneNetsModel" "low" "[I", Cond.fieldLink RX6 20 "LaneNetsModel" "high" "[I", Cond.arrayClass .boolean, Cond.fieldLink RX6 23 "LaneNetsModel" "isOn" "[Z", Cond.fieldLink RX6 27 "LaneNetsModel" "thenLanes" "[I", Cond.fieldLink RX6 30 "LaneNetsModel" "thenMany" "[I", Cond.fieldLink RX6 33 "LaneNetsModel" "thenKinds" "[I", Cond.fieldLink RX6 36 "LaneNetsModel" "thenLow" "[I", Cond.fieldLink RX6 39 "LaneNetsModel" "thenHigh" "[I", Cond.fieldLink RX6 42 "LaneNetsModel" "thenOn" "[Z", Cond.fieldLink RX6 45 "LaneNetsModel" "crateKind" "[I", Cond.fieldLink RX6 48 "LaneNetsModel" "crateSize" "[I", Cond.arrayClass .long, Cond.fieldLink RX6 51 "LaneNetsModel" "loads" "[J", Cond.fieldLink RX6 55 "LaneNetsModel" "waits" "[I", Cond.fieldLink RX6 58 "LaneNetsModel" "roundRow" "[I", Cond.fieldLink RX6 61 "LaneNetsModel" "carried" "[J", Cond.fieldLink RX6 64 "LaneNetsModel" "goesOut" "[Z"]
def wsX6_init_r2 : List Cond := [Cond.fieldLink RX6 67 "LaneNetsModel" "to" "[I", Cond.fieldLink RX6 70 "LaneNetsModel" "trial" "[I", Cond.fieldLink RX6 73 "LaneNetsModel" "outs" "[I"]
def wsX6_init : List Cond := .code yX6_init cX6_init 1 none :: ((wsX6_init_r1 ++ wsX6_init_r2) ++ wsX60)
def wsX6_in : List Cond := .code yX6_in cX6_in 3 (some .boolean) :: ([])
def wsX6_found : List Cond := .code yX6_found cX6_found 2 (some .int) :: ([.fieldLink RX6 76 "LaneNetsModel" "findings" "I"] ++ wsX60)
def wsX6_isComparer : List Cond := .code yX6_isComparer cX6_isComparer 2 (some .boolean) :: ([.fieldLink RX6 79 "LaneNetsModel" "many" "I", .methodLink RX6 82 yX6_in, .static yX6_in, .initialized RX6, .code yX6_in cX6_in 3 (some .boolean)] ++ wsX60)
def wsX6_isLane : List Cond := .code yX6_isLane cX6_isLane 2 (some .boolean) :: ([.fieldLink RX6 7 "LaneNetsModel" "lanes" "I", .methodLink RX6 82 yX6_in, .static yX6_in, .initialized RX6, .code yX6_in cX6_in 3 (some .boolean)] ++ wsX60)
def wsX6_store : List Cond := .code yX6_store cX6_store 3 none :: ([.fieldLink RX6 27 "LaneNetsModel" "thenLanes" "[I", .fieldLink RX6 7 "LaneNetsModel" "lanes" "I", .fieldLink RX6 30 "LaneNetsModel" "thenMany" "[I", .fieldLink RX6 79 "LaneNetsModel" "many" "I", .fieldLink RX6 33 "LaneNetsModel" "thenKinds" "[I", .fieldLink RX6 13 "LaneNetsModel" "kinds" "[I", .fieldLink RX6 36 "LaneNetsModel" "thenLow" "[I", .fieldLink RX6 17 "LaneNetsModel" "low" "[I", .fieldLink RX6 39 "LaneNetsModel" "thenHigh" "[I", .fieldLink RX6 20 "LaneNetsModel" "high" "[I", .fieldLink RX6 42 "LaneNetsModel" "thenOn" "[Z", .fieldLink RX6 23 "LaneNetsModel" "isOn" "[Z"] ++ wsX60)
def wsX6_restore : List Cond := .code yX6_restore cX6_restore 3 none :: ([.fieldLink RX6 27 "LaneNetsModel" "thenLanes" "[I", .fieldLink RX6 7 "LaneNetsModel" "lanes" "I", .fieldLink RX6 30 "LaneNetsModel" "thenMany" "[I", .fieldLink RX6 79 "LaneNetsModel" "many" "I", .fieldLink RX6 13 "LaneNetsModel" "kinds" "[I", .fieldLink RX6 33 "LaneNetsModel" "thenKinds" "[I", .fieldLink RX6 17 "LaneNetsModel" "low" "[I", .fieldLink RX6 36 "LaneNetsModel" "thenLow" "[I", .fieldLink RX6 20 "LaneNetsModel" "high" "[I", .fieldLink RX6 39 "LaneNetsModel" "thenHigh" "[I", .fieldLink RX6 23 "LaneNetsModel" "isOn" "[Z", .fieldLink RX6 42 "LaneNetsModel" "thenOn" "[Z"] ++ wsX60)
def wsX6_begins : List Cond := .code yX6_begins cX6_begins 2 none :: ([.fieldLink RX6 86 "LaneNetsModel" "kept" "I", .fieldLink RX6 27 "LaneNetsModel" "thenLanes" "[I", .fieldLink RX6 30 "LaneNetsModel" "thenMany" "[I", .fieldLink RX6 33 "LaneNetsModel" "thenKinds" "[I", .fieldLink RX6 36 "LaneNetsModel" "thenLow" "[I", .fieldLink RX6 39 "LaneNetsModel" "thenHigh" "[I", .fieldLink RX6 42 "LaneNetsModel" "thenOn" "[Z", .methodLink RX6 89 yX6_store, .instanceMethod yX6_store, .selects RX6 yX6_store yX6_store, .initialized RX6, .code yX6_store cX6_store 3 none, .fieldLink RX6 7 "LaneNetsModel" "lanes" "I", .fieldLink RX6 79 "LaneNetsModel" "many" "I", .fieldLink RX6 13 "LaneNetsModel" "kinds" "[I", .fieldLink RX6 17 "LaneNetsModel" "low" "[I", .fieldLink RX6 20 "LaneNetsModel" "high" "[I", .fieldLink RX6 23 "LaneNetsModel" "isOn" "[Z"] ++ wsX60)
def wsX6_undo : List Cond := .code yX6_undo cX6_undo 1 (some .int) :: ([.fieldLink RX6 86 "LaneNetsModel" "kept" "I", .methodLink RX6 93 yX6_found, .instanceMethod yX6_found, .selects RX6 yX6_found yX6_found, .initialized RX6, .code yX6_found cX6_found 2 (some .int), .fieldLink RX6 76 "LaneNetsModel" "findings" "I", .methodLink RX6 97 yX6_restore, .instanceMethod yX6_restore, .selects RX6 yX6_restore yX6_restore, .code yX6_restore cX6_restore 3 none, .fieldLink RX6 27 "LaneNetsModel" "thenLanes" "[I", .fieldLink RX6 7 "LaneNetsModel" "lanes" "I", .fieldLink RX6 30 "LaneNetsModel" "thenMany" "[I", .fieldLink RX6 79 "LaneNetsModel" "many" "I", .fieldLink RX6 13 "LaneNetsModel" "kinds" "[I", .fieldLink RX6 33 "LaneNetsModel" "thenKinds" "[I", .fieldLink RX6 17 "LaneNetsModel" "low" "[I", .fieldLink RX6 36 "LaneNetsModel" "thenLow" "[I", .fieldLink RX6 20 "LaneNetsModel" "high" "[I", .fieldLink RX6 39 "LaneNetsModel" "thenHigh" "[I", .fieldLink RX6 23 "LaneNetsModel" "isOn" "[Z", .fieldLink RX6 42 "LaneNetsModel" "thenOn" "[Z"] ++ wsX60)
def wsX6_lanes_r1 : List Cond := [Cond.fieldLink RX6 79 "LaneNetsModel" "many" "I", Cond.fieldLink RX6 7 "LaneNetsModel" "lanes" "I", Cond.methodLink RX6 82 yX6_in, Cond.static yX6_in, Cond.initialized RX6, Cond.code yX6_in cX6_in 3 (some .boolean), Cond.methodLink RX6 93 yX6_found, Cond.instanceMethod yX6_found, Cond.selects RX6 yX6_found yX6_found, Cond.code yX6_found cX6_found 2 (some .int), Cond.fieldLink RX6 76 "LaneNetsModel" "findings" "I", Cond.methodLink RX6 100 yX6_begins, Cond.instanceMethod yX6_begins, Cond.selects RX6 yX6_begins yX6_begins, Cond.code yX6_begins cX6_begins 2 none, Cond.fieldLink RX6 86 "LaneNetsModel" "kept" "I", Cond.fieldLink RX6 27 "LaneNetsModel" "thenLanes" "[I", Cond.fieldLink RX6 30 "LaneNetsModel" "thenMany" "[I", Cond.fieldLink RX6 33 "LaneNetsModel" "thenKinds" "[I", Cond.fieldLink RX6 36 "LaneNetsModel" "thenLow" "[I", Cond.fieldLink RX6 39 "LaneNetsModel" "thenHigh" "[I", Cond.fieldLink RX6 42 "LaneNetsModel" "thenOn" "[Z", Cond.methodLink RX6 89 yX6_store, Cond.instanceMethod yX6_store]
def wsX6_lanes_r2 : List Cond := [Cond.selects RX6 yX6_store yX6_store, Cond.code yX6_store cX6_store 3 none, Cond.fieldLink RX6 13 "LaneNetsModel" "kinds" "[I", Cond.fieldLink RX6 17 "LaneNetsModel" "low" "[I", Cond.fieldLink RX6 20 "LaneNetsModel" "high" "[I", Cond.fieldLink RX6 23 "LaneNetsModel" "isOn" "[Z"]
def wsX6_lanes : List Cond := .code yX6_lanes cX6_lanes 3 (some .int) :: ((wsX6_lanes_r1 ++ wsX6_lanes_r2) ++ wsX60)
def wsX6_add : List Cond := .code yX6_add cX6_add 4 none :: ([.fieldLink RX6 13 "LaneNetsModel" "kinds" "[I", .fieldLink RX6 79 "LaneNetsModel" "many" "I", .fieldLink RX6 17 "LaneNetsModel" "low" "[I", .fieldLink RX6 20 "LaneNetsModel" "high" "[I", .fieldLink RX6 23 "LaneNetsModel" "isOn" "[Z"] ++ wsX60)
def wsX6_comparer_r1 : List Cond := [Cond.fieldLink RX6 79 "LaneNetsModel" "many" "I", Cond.methodLink RX6 82 yX6_in, Cond.static yX6_in, Cond.initialized RX6, Cond.code yX6_in cX6_in 3 (some .boolean), Cond.methodLink RX6 103 yX6_isLane, Cond.instanceMethod yX6_isLane, Cond.selects RX6 yX6_isLane yX6_isLane, Cond.code yX6_isLane cX6_isLane 2 (some .boolean), Cond.fieldLink RX6 7 "LaneNetsModel" "lanes" "I", Cond.methodLink RX6 93 yX6_found, Cond.instanceMethod yX6_found, Cond.selects RX6 yX6_found yX6_found, Cond.code yX6_found cX6_found 2 (some .int), Cond.fieldLink RX6 76 "LaneNetsModel" "findings" "I", Cond.methodLink RX6 100 yX6_begins, Cond.instanceMethod yX6_begins, Cond.selects RX6 yX6_begins yX6_begins, Cond.code yX6_begins cX6_begins 2 none, Cond.fieldLink RX6 86 "LaneNetsModel" "kept" "I", Cond.fieldLink RX6 27 "LaneNetsModel" "thenLanes" "[I", Cond.fieldLink RX6 30 "LaneNetsModel" "thenMany" "[I", Cond.fieldLink RX6 33 "LaneNetsModel" "thenKinds" "[I", Cond.fieldLink RX6 36 "LaneNetsModel" "thenLow" "[I"]
def wsX6_comparer_r2 : List Cond := [Cond.fieldLink RX6 39 "LaneNetsModel" "thenHigh" "[I", Cond.fieldLink RX6 42 "LaneNetsModel" "thenOn" "[Z", Cond.methodLink RX6 89 yX6_store, Cond.instanceMethod yX6_store, Cond.selects RX6 yX6_store yX6_store, Cond.code yX6_store cX6_store 3 none, Cond.fieldLink RX6 13 "LaneNetsModel" "kinds" "[I", Cond.fieldLink RX6 17 "LaneNetsModel" "low" "[I", Cond.fieldLink RX6 20 "LaneNetsModel" "high" "[I", Cond.fieldLink RX6 23 "LaneNetsModel" "isOn" "[Z", Cond.methodLink RX6 107 yX6_add, Cond.instanceMethod yX6_add, Cond.selects RX6 yX6_add yX6_add, Cond.code yX6_add cX6_add 4 none]
def wsX6_comparer : List Cond := .code yX6_comparer cX6_comparer 4 (some .int) :: ((wsX6_comparer_r1 ++ wsX6_comparer_r2) ++ wsX60)
def wsX6_cut_r1 : List Cond := [Cond.fieldLink RX6 79 "LaneNetsModel" "many" "I", Cond.methodLink RX6 82 yX6_in, Cond.static yX6_in, Cond.initialized RX6, Cond.code yX6_in cX6_in 3 (some .boolean), Cond.methodLink RX6 93 yX6_found, Cond.instanceMethod yX6_found, Cond.selects RX6 yX6_found yX6_found, Cond.code yX6_found cX6_found 2 (some .int), Cond.fieldLink RX6 76 "LaneNetsModel" "findings" "I", Cond.methodLink RX6 100 yX6_begins, Cond.instanceMethod yX6_begins, Cond.selects RX6 yX6_begins yX6_begins, Cond.code yX6_begins cX6_begins 2 none, Cond.fieldLink RX6 86 "LaneNetsModel" "kept" "I", Cond.fieldLink RX6 27 "LaneNetsModel" "thenLanes" "[I", Cond.fieldLink RX6 30 "LaneNetsModel" "thenMany" "[I", Cond.fieldLink RX6 33 "LaneNetsModel" "thenKinds" "[I", Cond.fieldLink RX6 36 "LaneNetsModel" "thenLow" "[I", Cond.fieldLink RX6 39 "LaneNetsModel" "thenHigh" "[I", Cond.fieldLink RX6 42 "LaneNetsModel" "thenOn" "[Z", Cond.methodLink RX6 89 yX6_store, Cond.instanceMethod yX6_store, Cond.selects RX6 yX6_store yX6_store]
def wsX6_cut_r2 : List Cond := [Cond.code yX6_store cX6_store 3 none, Cond.fieldLink RX6 7 "LaneNetsModel" "lanes" "I", Cond.fieldLink RX6 13 "LaneNetsModel" "kinds" "[I", Cond.fieldLink RX6 17 "LaneNetsModel" "low" "[I", Cond.fieldLink RX6 20 "LaneNetsModel" "high" "[I", Cond.fieldLink RX6 23 "LaneNetsModel" "isOn" "[Z"]
def wsX6_cut : List Cond := .code yX6_cut cX6_cut 3 (some .int) :: ((wsX6_cut_r1 ++ wsX6_cut_r2) ++ wsX60)
def wsX6_change_r1 : List Cond := [Cond.fieldLink RX6 13 "LaneNetsModel" "kinds" "[I", Cond.fieldLink RX6 23 "LaneNetsModel" "isOn" "[Z", Cond.methodLink RX6 111 yX6_isComparer, Cond.instanceMethod yX6_isComparer, Cond.selects RX6 yX6_isComparer yX6_isComparer, Cond.initialized RX6, Cond.code yX6_isComparer cX6_isComparer 2 (some .boolean), Cond.fieldLink RX6 79 "LaneNetsModel" "many" "I", Cond.methodLink RX6 82 yX6_in, Cond.static yX6_in, Cond.code yX6_in cX6_in 3 (some .boolean), Cond.methodLink RX6 93 yX6_found, Cond.instanceMethod yX6_found, Cond.selects RX6 yX6_found yX6_found, Cond.code yX6_found cX6_found 2 (some .int), Cond.fieldLink RX6 76 "LaneNetsModel" "findings" "I", Cond.methodLink RX6 100 yX6_begins, Cond.instanceMethod yX6_begins, Cond.selects RX6 yX6_begins yX6_begins, Cond.code yX6_begins cX6_begins 2 none, Cond.fieldLink RX6 86 "LaneNetsModel" "kept" "I", Cond.fieldLink RX6 27 "LaneNetsModel" "thenLanes" "[I", Cond.fieldLink RX6 30 "LaneNetsModel" "thenMany" "[I", Cond.fieldLink RX6 33 "LaneNetsModel" "thenKinds" "[I"]
def wsX6_change_r2 : List Cond := [Cond.fieldLink RX6 36 "LaneNetsModel" "thenLow" "[I", Cond.fieldLink RX6 39 "LaneNetsModel" "thenHigh" "[I", Cond.fieldLink RX6 42 "LaneNetsModel" "thenOn" "[Z", Cond.methodLink RX6 89 yX6_store, Cond.instanceMethod yX6_store, Cond.selects RX6 yX6_store yX6_store, Cond.code yX6_store cX6_store 3 none, Cond.fieldLink RX6 7 "LaneNetsModel" "lanes" "I", Cond.fieldLink RX6 17 "LaneNetsModel" "low" "[I", Cond.fieldLink RX6 20 "LaneNetsModel" "high" "[I"]
def wsX6_change : List Cond := .code yX6_change cX6_change 4 (some .int) :: ((wsX6_change_r1 ++ wsX6_change_r2) ++ wsX60)
def wsX6_turnSwitch_r1 : List Cond := [Cond.fieldLink RX6 13 "LaneNetsModel" "kinds" "[I", Cond.fieldLink RX6 23 "LaneNetsModel" "isOn" "[Z", Cond.methodLink RX6 111 yX6_isComparer, Cond.instanceMethod yX6_isComparer, Cond.selects RX6 yX6_isComparer yX6_isComparer, Cond.initialized RX6, Cond.code yX6_isComparer cX6_isComparer 2 (some .boolean), Cond.fieldLink RX6 79 "LaneNetsModel" "many" "I", Cond.methodLink RX6 82 yX6_in, Cond.static yX6_in, Cond.code yX6_in cX6_in 3 (some .boolean), Cond.methodLink RX6 93 yX6_found, Cond.instanceMethod yX6_found, Cond.selects RX6 yX6_found yX6_found, Cond.code yX6_found cX6_found 2 (some .int), Cond.fieldLink RX6 76 "LaneNetsModel" "findings" "I", Cond.methodLink RX6 100 yX6_begins, Cond.instanceMethod yX6_begins, Cond.selects RX6 yX6_begins yX6_begins, Cond.code yX6_begins cX6_begins 2 none, Cond.fieldLink RX6 86 "LaneNetsModel" "kept" "I", Cond.fieldLink RX6 27 "LaneNetsModel" "thenLanes" "[I", Cond.fieldLink RX6 30 "LaneNetsModel" "thenMany" "[I", Cond.fieldLink RX6 33 "LaneNetsModel" "thenKinds" "[I"]
def wsX6_turnSwitch_r2 : List Cond := [Cond.fieldLink RX6 36 "LaneNetsModel" "thenLow" "[I", Cond.fieldLink RX6 39 "LaneNetsModel" "thenHigh" "[I", Cond.fieldLink RX6 42 "LaneNetsModel" "thenOn" "[Z", Cond.methodLink RX6 89 yX6_store, Cond.instanceMethod yX6_store, Cond.selects RX6 yX6_store yX6_store, Cond.code yX6_store cX6_store 3 none, Cond.fieldLink RX6 7 "LaneNetsModel" "lanes" "I", Cond.fieldLink RX6 17 "LaneNetsModel" "low" "[I", Cond.fieldLink RX6 20 "LaneNetsModel" "high" "[I"]
def wsX6_turnSwitch : List Cond := .code yX6_turnSwitch cX6_turnSwitch 4 (some .int) :: ((wsX6_turnSwitch_r1 ++ wsX6_turnSwitch_r2) ++ wsX60)
def wsX6_above : List Cond := .code yX6_above cX6_above 1 (some .int) :: ([])
def wsX6_as : List Cond := .code yX6_as cX6_as 4 (some .int) :: ([.fieldLink RX6 13 "LaneNetsModel" "kinds" "[I", .methodLink RX6 111 yX6_isComparer, .instanceMethod yX6_isComparer, .selects RX6 yX6_isComparer yX6_isComparer, .initialized RX6, .code yX6_isComparer cX6_isComparer 2 (some .boolean), .fieldLink RX6 79 "LaneNetsModel" "many" "I", .methodLink RX6 82 yX6_in, .static yX6_in, .code yX6_in cX6_in 3 (some .boolean), .methodLink RX6 93 yX6_found, .instanceMethod yX6_found, .selects RX6 yX6_found yX6_found, .code yX6_found cX6_found 2 (some .int), .fieldLink RX6 76 "LaneNetsModel" "findings" "I", .methodLink RX6 114 yX6_above, .static yX6_above, .code yX6_above cX6_above 1 (some .int)] ++ wsX60)
def wsX6_roundOf : List Cond := .code yX6_roundOf cX6_roundOf 6 (some .int) :: ([.fieldLink RX6 17 "LaneNetsModel" "low" "[I", .fieldLink RX6 20 "LaneNetsModel" "high" "[I", .fieldLink RX6 58 "LaneNetsModel" "roundRow" "[I"] ++ wsX60)
def wsX6_of : List Cond := .code yX6_of cX6_of 3 (some .int) :: ([.fieldLink RX6 13 "LaneNetsModel" "kinds" "[I", .fieldLink RX6 17 "LaneNetsModel" "low" "[I", .fieldLink RX6 20 "LaneNetsModel" "high" "[I", .fieldLink RX6 23 "LaneNetsModel" "isOn" "[Z", .methodLink RX6 111 yX6_isComparer, .instanceMethod yX6_isComparer, .selects RX6 yX6_isComparer yX6_isComparer, .initialized RX6, .code yX6_isComparer cX6_isComparer 2 (some .boolean), .fieldLink RX6 79 "LaneNetsModel" "many" "I", .methodLink RX6 82 yX6_in, .static yX6_in, .code yX6_in cX6_in 3 (some .boolean), .methodLink RX6 93 yX6_found, .instanceMethod yX6_found, .selects RX6 yX6_found yX6_found, .code yX6_found cX6_found 2 (some .int), .fieldLink RX6 76 "LaneNetsModel" "findings" "I", .methodLink RX6 117 yX6_roundOf, .instanceMethod yX6_roundOf, .selects RX6 yX6_roundOf yX6_roundOf, .code yX6_roundOf cX6_roundOf 6 (some .int), .fieldLink RX6 58 "LaneNetsModel" "roundRow" "[I"] ++ wsX60)
def wsX6_rounds : List Cond := .code yX6_rounds cX6_rounds 4 (some .int) :: ([.fieldLink RX6 79 "LaneNetsModel" "many" "I", .methodLink RX6 117 yX6_roundOf, .instanceMethod yX6_roundOf, .selects RX6 yX6_roundOf yX6_roundOf, .initialized RX6, .code yX6_roundOf cX6_roundOf 6 (some .int), .fieldLink RX6 17 "LaneNetsModel" "low" "[I", .fieldLink RX6 20 "LaneNetsModel" "high" "[I", .fieldLink RX6 58 "LaneNetsModel" "roundRow" "[I"] ++ wsX60)
def wsX6_isCrate : List Cond := .code yX6_isCrate cX6_isCrate 1 (some .boolean) :: ([.methodLink RX6 82 yX6_in, .static yX6_in, .initialized RX6, .code yX6_in cX6_in 3 (some .boolean)])
def wsX6_crate : List Cond := .code yX6_crate cX6_crate 5 (some .int) :: ([.fieldLink RX6 45 "LaneNetsModel" "crateKind" "[I", .fieldLink RX6 48 "LaneNetsModel" "crateSize" "[I", .fieldLink RX6 51 "LaneNetsModel" "loads" "[J", .methodLink RX6 120 yX6_isCrate, .static yX6_isCrate, .initialized RX6, .code yX6_isCrate cX6_isCrate 1 (some .boolean), .methodLink RX6 82 yX6_in, .static yX6_in, .code yX6_in cX6_in 3 (some .boolean), .methodLink RX6 93 yX6_found, .instanceMethod yX6_found, .selects RX6 yX6_found yX6_found, .code yX6_found cX6_found 2 (some .int), .fieldLink RX6 76 "LaneNetsModel" "findings" "I"] ++ wsX60)
def wsX6_lacks : List Cond := .code yX6_lacks cX6_lacks 3 (some .int) :: ([.fieldLink RX6 45 "LaneNetsModel" "crateKind" "[I", .fieldLink RX6 48 "LaneNetsModel" "crateSize" "[I", .methodLink RX6 120 yX6_isCrate, .static yX6_isCrate, .initialized RX6, .code yX6_isCrate cX6_isCrate 1 (some .boolean), .methodLink RX6 82 yX6_in, .static yX6_in, .code yX6_in cX6_in 3 (some .boolean)] ++ wsX60)
def wsX6_narrow : List Cond := .code yX6_narrow cX6_narrow 3 (some .long) :: ([.constantLong RX6 123 (65535), .constant RX6 125 (2147483647), .constant RX6 126 (2139095040), .constantLong RX6 127 (2143289344), .constantLong RX6 129 (9223372036854775807), .constantLong RX6 131 (9218868437227405312), .constantLong RX6 133 (9221120237041090560)])
def wsX6_put_r1 : List Cond := [Cond.fieldLink RX6 51 "LaneNetsModel" "loads" "[J", Cond.fieldLink RX6 45 "LaneNetsModel" "crateKind" "[I", Cond.methodLink RX6 135 yX6_lacks, Cond.instanceMethod yX6_lacks, Cond.selects RX6 yX6_lacks yX6_lacks, Cond.initialized RX6, Cond.code yX6_lacks cX6_lacks 3 (some .int), Cond.fieldLink RX6 48 "LaneNetsModel" "crateSize" "[I", Cond.methodLink RX6 120 yX6_isCrate, Cond.static yX6_isCrate, Cond.code yX6_isCrate cX6_isCrate 1 (some .boolean), Cond.methodLink RX6 82 yX6_in, Cond.static yX6_in, Cond.code yX6_in cX6_in 3 (some .boolean), Cond.methodLink RX6 93 yX6_found, Cond.instanceMethod yX6_found, Cond.selects RX6 yX6_found yX6_found, Cond.code yX6_found cX6_found 2 (some .int), Cond.fieldLink RX6 76 "LaneNetsModel" "findings" "I", Cond.methodLink RX6 139 yX6_narrow, Cond.static yX6_narrow, Cond.code yX6_narrow cX6_narrow 3 (some .long), Cond.constantLong RX6 123 (65535), Cond.constant RX6 125 (2147483647)]
def wsX6_put_r2 : List Cond := [Cond.constant RX6 126 (2139095040), Cond.constantLong RX6 127 (2143289344), Cond.constantLong RX6 129 (9223372036854775807), Cond.constantLong RX6 131 (9218868437227405312), Cond.constantLong RX6 133 (9221120237041090560)]
def wsX6_put : List Cond := .code yX6_put cX6_put 6 (some .int) :: ((wsX6_put_r1 ++ wsX6_put_r2) ++ wsX60)
def wsX6_load : List Cond := .code yX6_load cX6_load 4 (some .long) :: ([.fieldLink RX6 76 "LaneNetsModel" "findings" "I", .constantLong RX6 143 (-9223372036854775808), .fieldLink RX6 51 "LaneNetsModel" "loads" "[J", .methodLink RX6 135 yX6_lacks, .instanceMethod yX6_lacks, .selects RX6 yX6_lacks yX6_lacks, .initialized RX6, .code yX6_lacks cX6_lacks 3 (some .int), .fieldLink RX6 45 "LaneNetsModel" "crateKind" "[I", .fieldLink RX6 48 "LaneNetsModel" "crateSize" "[I", .methodLink RX6 120 yX6_isCrate, .static yX6_isCrate, .code yX6_isCrate cX6_isCrate 1 (some .boolean), .methodLink RX6 82 yX6_in, .static yX6_in, .code yX6_in cX6_in 3 (some .boolean)] ++ wsX60)
def wsX6_copy : List Cond := .code yX6_copy cX6_copy 7 (some .int) :: ([.fieldLink RX6 45 "LaneNetsModel" "crateKind" "[I", .fieldLink RX6 48 "LaneNetsModel" "crateSize" "[I", .fieldLink RX6 61 "LaneNetsModel" "carried" "[J", .fieldLink RX6 51 "LaneNetsModel" "loads" "[J", .methodLink RX6 120 yX6_isCrate, .static yX6_isCrate, .initialized RX6, .code yX6_isCrate cX6_isCrate 1 (some .boolean), .methodLink RX6 82 yX6_in, .static yX6_in, .code yX6_in cX6_in 3 (some .boolean), .methodLink RX6 93 yX6_found, .instanceMethod yX6_found, .selects RX6 yX6_found yX6_found, .code yX6_found cX6_found 2 (some .int), .fieldLink RX6 76 "LaneNetsModel" "findings" "I"] ++ wsX60)
def wsX6_key : List Cond := .code yX6_key cX6_key 5 (some .long) :: ([.fieldLink RX6 51 "LaneNetsModel" "loads" "[J", .fieldLink RX6 45 "LaneNetsModel" "crateKind" "[I", .constantLong RX6 145 (2147483647), .constantLong RX6 129 (9223372036854775807)] ++ wsX60)
def wsX6_changes : List Cond := .code yX6_changes cX6_changes 3 (some .boolean) :: ([.fieldLink RX6 13 "LaneNetsModel" "kinds" "[I", .fieldLink RX6 23 "LaneNetsModel" "isOn" "[Z"] ++ wsX60)
def wsX6_against : List Cond := .code yX6_against cX6_against 8 (some .int) :: ([.methodLink RX6 147 yX6_key, .instanceMethod yX6_key, .selects RX6 yX6_key yX6_key, .initialized RX6, .code yX6_key cX6_key 5 (some .long), .fieldLink RX6 51 "LaneNetsModel" "loads" "[J", .fieldLink RX6 45 "LaneNetsModel" "crateKind" "[I", .constantLong RX6 145 (2147483647), .constantLong RX6 129 (9223372036854775807)] ++ wsX60)
def wsX6_run_r1 : List Cond := [Cond.fieldLink RX6 45 "LaneNetsModel" "crateKind" "[I", Cond.fieldLink RX6 48 "LaneNetsModel" "crateSize" "[I", Cond.fieldLink RX6 7 "LaneNetsModel" "lanes" "I", Cond.fieldLink RX6 79 "LaneNetsModel" "many" "I", Cond.fieldLink RX6 17 "LaneNetsModel" "low" "[I", Cond.fieldLink RX6 20 "LaneNetsModel" "high" "[I", Cond.fieldLink RX6 51 "LaneNetsModel" "loads" "[J", Cond.methodLink RX6 120 yX6_isCrate, Cond.static yX6_isCrate, Cond.initialized RX6, Cond.code yX6_isCrate cX6_isCrate 1 (some .boolean), Cond.methodLink RX6 82 yX6_in, Cond.static yX6_in, Cond.code yX6_in cX6_in 3 (some .boolean), Cond.methodLink RX6 93 yX6_found, Cond.instanceMethod yX6_found, Cond.selects RX6 yX6_found yX6_found, Cond.code yX6_found cX6_found 2 (some .int), Cond.fieldLink RX6 76 "LaneNetsModel" "findings" "I", Cond.methodLink RX6 151 yX6_against, Cond.instanceMethod yX6_against, Cond.selects RX6 yX6_against yX6_against, Cond.code yX6_against cX6_against 8 (some .int), Cond.methodLink RX6 147 yX6_key]
def wsX6_run_r2 : List Cond := [Cond.instanceMethod yX6_key, Cond.selects RX6 yX6_key yX6_key, Cond.code yX6_key cX6_key 5 (some .long), Cond.constantLong RX6 145 (2147483647), Cond.constantLong RX6 129 (9223372036854775807), Cond.methodLink RX6 155 yX6_changes, Cond.instanceMethod yX6_changes, Cond.selects RX6 yX6_changes yX6_changes, Cond.code yX6_changes cX6_changes 3 (some .boolean), Cond.fieldLink RX6 13 "LaneNetsModel" "kinds" "[I", Cond.fieldLink RX6 23 "LaneNetsModel" "isOn" "[Z"]
def wsX6_run : List Cond := .code yX6_run cX6_run 6 (some .int) :: ((wsX6_run_r1 ++ wsX6_run_r2) ++ wsX60)
def wsX6_rises_r1 : List Cond := [Cond.fieldLink RX6 45 "LaneNetsModel" "crateKind" "[I", Cond.fieldLink RX6 48 "LaneNetsModel" "crateSize" "[I", Cond.methodLink RX6 120 yX6_isCrate, Cond.static yX6_isCrate, Cond.initialized RX6, Cond.code yX6_isCrate cX6_isCrate 1 (some .boolean), Cond.methodLink RX6 82 yX6_in, Cond.static yX6_in, Cond.code yX6_in cX6_in 3 (some .boolean), Cond.methodLink RX6 93 yX6_found, Cond.instanceMethod yX6_found, Cond.selects RX6 yX6_found yX6_found, Cond.code yX6_found cX6_found 2 (some .int), Cond.fieldLink RX6 76 "LaneNetsModel" "findings" "I", Cond.methodLink RX6 151 yX6_against, Cond.instanceMethod yX6_against, Cond.selects RX6 yX6_against yX6_against, Cond.code yX6_against cX6_against 8 (some .int), Cond.methodLink RX6 147 yX6_key, Cond.instanceMethod yX6_key, Cond.selects RX6 yX6_key yX6_key, Cond.code yX6_key cX6_key 5 (some .long), Cond.fieldLink RX6 51 "LaneNetsModel" "loads" "[J", Cond.constantLong RX6 145 (2147483647)]
def wsX6_rises_r2 : List Cond := [Cond.constantLong RX6 129 (9223372036854775807)]
def wsX6_rises : List Cond := .code yX6_rises cX6_rises 3 (some .int) :: ((wsX6_rises_r1 ++ wsX6_rises_r2) ++ wsX60)
def wsX6_order_r1 : List Cond := [Cond.methodLink RX6 135 yX6_lacks, Cond.instanceMethod yX6_lacks, Cond.selects RX6 yX6_lacks yX6_lacks, Cond.initialized RX6, Cond.code yX6_lacks cX6_lacks 3 (some .int), Cond.fieldLink RX6 45 "LaneNetsModel" "crateKind" "[I", Cond.fieldLink RX6 48 "LaneNetsModel" "crateSize" "[I", Cond.methodLink RX6 120 yX6_isCrate, Cond.static yX6_isCrate, Cond.code yX6_isCrate cX6_isCrate 1 (some .boolean), Cond.methodLink RX6 82 yX6_in, Cond.static yX6_in, Cond.code yX6_in cX6_in 3 (some .boolean), Cond.methodLink RX6 93 yX6_found, Cond.instanceMethod yX6_found, Cond.selects RX6 yX6_found yX6_found, Cond.code yX6_found cX6_found 2 (some .int), Cond.fieldLink RX6 76 "LaneNetsModel" "findings" "I", Cond.methodLink RX6 151 yX6_against, Cond.instanceMethod yX6_against, Cond.selects RX6 yX6_against yX6_against, Cond.code yX6_against cX6_against 8 (some .int), Cond.methodLink RX6 147 yX6_key, Cond.instanceMethod yX6_key]
def wsX6_order_r2 : List Cond := [Cond.selects RX6 yX6_key yX6_key, Cond.code yX6_key cX6_key 5 (some .long), Cond.fieldLink RX6 51 "LaneNetsModel" "loads" "[J", Cond.constantLong RX6 145 (2147483647), Cond.constantLong RX6 129 (9223372036854775807)]
def wsX6_order : List Cond := .code yX6_order cX6_order 5 (some .int) :: ((wsX6_order_r1 ++ wsX6_order_r2) ++ wsX60)
def wsX6_at : List Cond := .code yX6_at cX6_at 2 (some .int) :: ([])
def wsX6_goes : List Cond := .code yX6_goes cX6_goes 7 (some .int) :: ([.fieldLink RX6 17 "LaneNetsModel" "low" "[I", .fieldLink RX6 20 "LaneNetsModel" "high" "[I", .methodLink RX6 159 yX6_at, .static yX6_at, .initialized RX6, .code yX6_at cX6_at 2 (some .int), .methodLink RX6 155 yX6_changes, .instanceMethod yX6_changes, .selects RX6 yX6_changes yX6_changes, .code yX6_changes cX6_changes 3 (some .boolean), .fieldLink RX6 13 "LaneNetsModel" "kinds" "[I", .fieldLink RX6 23 "LaneNetsModel" "isOn" "[Z"] ++ wsX60)
def wsX6_isRising : List Cond := .code yX6_isRising cX6_isRising 3 (some .boolean) :: ([.fieldLink RX6 7 "LaneNetsModel" "lanes" "I", .methodLink RX6 159 yX6_at, .static yX6_at, .initialized RX6, .code yX6_at cX6_at 2 (some .int)] ++ wsX60)
def wsX6_rows : List Cond := .code yX6_rows cX6_rows 1 (some .int) :: ([.fieldLink RX6 7 "LaneNetsModel" "lanes" "I"] ++ wsX60)
def wsX6_failing_r1 : List Cond := [Cond.fieldLink RX6 79 "LaneNetsModel" "many" "I", Cond.methodLink RX6 162 yX6_rows, Cond.instanceMethod yX6_rows, Cond.selects RX6 yX6_rows yX6_rows, Cond.initialized RX6, Cond.code yX6_rows cX6_rows 1 (some .int), Cond.fieldLink RX6 7 "LaneNetsModel" "lanes" "I", Cond.methodLink RX6 166 yX6_goes, Cond.instanceMethod yX6_goes, Cond.selects RX6 yX6_goes yX6_goes, Cond.code yX6_goes cX6_goes 7 (some .int), Cond.fieldLink RX6 17 "LaneNetsModel" "low" "[I", Cond.fieldLink RX6 20 "LaneNetsModel" "high" "[I", Cond.methodLink RX6 159 yX6_at, Cond.static yX6_at, Cond.code yX6_at cX6_at 2 (some .int), Cond.methodLink RX6 155 yX6_changes, Cond.instanceMethod yX6_changes, Cond.selects RX6 yX6_changes yX6_changes, Cond.code yX6_changes cX6_changes 3 (some .boolean), Cond.fieldLink RX6 13 "LaneNetsModel" "kinds" "[I", Cond.fieldLink RX6 23 "LaneNetsModel" "isOn" "[Z", Cond.methodLink RX6 169 yX6_isRising, Cond.instanceMethod yX6_isRising]
def wsX6_failing_r2 : List Cond := [Cond.selects RX6 yX6_isRising yX6_isRising, Cond.code yX6_isRising cX6_isRising 3 (some .boolean)]
def wsX6_failing : List Cond := .code yX6_failing cX6_failing 3 (some .int) :: ((wsX6_failing_r1 ++ wsX6_failing_r2) ++ wsX60)
def wsX6_out_r1 : List Cond := [Cond.fieldLink RX6 79 "LaneNetsModel" "many" "I", Cond.methodLink RX6 162 yX6_rows, Cond.instanceMethod yX6_rows, Cond.selects RX6 yX6_rows yX6_rows, Cond.initialized RX6, Cond.code yX6_rows cX6_rows 1 (some .int), Cond.fieldLink RX6 7 "LaneNetsModel" "lanes" "I", Cond.methodLink RX6 82 yX6_in, Cond.static yX6_in, Cond.code yX6_in cX6_in 3 (some .boolean), Cond.methodLink RX6 166 yX6_goes, Cond.instanceMethod yX6_goes, Cond.selects RX6 yX6_goes yX6_goes, Cond.code yX6_goes cX6_goes 7 (some .int), Cond.fieldLink RX6 17 "LaneNetsModel" "low" "[I", Cond.fieldLink RX6 20 "LaneNetsModel" "high" "[I", Cond.methodLink RX6 159 yX6_at, Cond.static yX6_at, Cond.code yX6_at cX6_at 2 (some .int), Cond.methodLink RX6 155 yX6_changes, Cond.instanceMethod yX6_changes, Cond.selects RX6 yX6_changes yX6_changes, Cond.code yX6_changes cX6_changes 3 (some .boolean), Cond.fieldLink RX6 13 "LaneNetsModel" "kinds" "[I"]
def wsX6_out_r2 : List Cond := [Cond.fieldLink RX6 23 "LaneNetsModel" "isOn" "[Z", Cond.methodLink RX6 93 yX6_found, Cond.instanceMethod yX6_found, Cond.selects RX6 yX6_found yX6_found, Cond.code yX6_found cX6_found 2 (some .int), Cond.fieldLink RX6 76 "LaneNetsModel" "findings" "I"]
def wsX6_out : List Cond := .code yX6_out cX6_out 2 (some .int) :: ((wsX6_out_r1 ++ wsX6_out_r2) ++ wsX60)
def wsX6_sorts_r1 : List Cond := [Cond.methodLink RX6 172 yX6_failing, Cond.instanceMethod yX6_failing, Cond.selects RX6 yX6_failing yX6_failing, Cond.initialized RX6, Cond.code yX6_failing cX6_failing 3 (some .int), Cond.fieldLink RX6 79 "LaneNetsModel" "many" "I", Cond.methodLink RX6 162 yX6_rows, Cond.instanceMethod yX6_rows, Cond.selects RX6 yX6_rows yX6_rows, Cond.code yX6_rows cX6_rows 1 (some .int), Cond.fieldLink RX6 7 "LaneNetsModel" "lanes" "I", Cond.methodLink RX6 166 yX6_goes, Cond.instanceMethod yX6_goes, Cond.selects RX6 yX6_goes yX6_goes, Cond.code yX6_goes cX6_goes 7 (some .int), Cond.fieldLink RX6 17 "LaneNetsModel" "low" "[I", Cond.fieldLink RX6 20 "LaneNetsModel" "high" "[I", Cond.methodLink RX6 159 yX6_at, Cond.static yX6_at, Cond.code yX6_at cX6_at 2 (some .int), Cond.methodLink RX6 155 yX6_changes, Cond.instanceMethod yX6_changes, Cond.selects RX6 yX6_changes yX6_changes, Cond.code yX6_changes cX6_changes 3 (some .boolean)]
def wsX6_sorts_r2 : List Cond := [Cond.fieldLink RX6 13 "LaneNetsModel" "kinds" "[I", Cond.fieldLink RX6 23 "LaneNetsModel" "isOn" "[Z", Cond.methodLink RX6 169 yX6_isRising, Cond.instanceMethod yX6_isRising, Cond.selects RX6 yX6_isRising yX6_isRising, Cond.code yX6_isRising cX6_isRising 3 (some .boolean)]
def wsX6_sorts : List Cond := .code yX6_sorts cX6_sorts 1 (some .int) :: ((wsX6_sorts_r1 ++ wsX6_sorts_r2) ++ wsX60)
def wsX6_fails_r1 : List Cond := [Cond.fieldLink RX6 79 "LaneNetsModel" "many" "I", Cond.methodLink RX6 172 yX6_failing, Cond.instanceMethod yX6_failing, Cond.selects RX6 yX6_failing yX6_failing, Cond.initialized RX6, Cond.code yX6_failing cX6_failing 3 (some .int), Cond.methodLink RX6 162 yX6_rows, Cond.instanceMethod yX6_rows, Cond.selects RX6 yX6_rows yX6_rows, Cond.code yX6_rows cX6_rows 1 (some .int), Cond.fieldLink RX6 7 "LaneNetsModel" "lanes" "I", Cond.methodLink RX6 166 yX6_goes, Cond.instanceMethod yX6_goes, Cond.selects RX6 yX6_goes yX6_goes, Cond.code yX6_goes cX6_goes 7 (some .int), Cond.fieldLink RX6 17 "LaneNetsModel" "low" "[I", Cond.fieldLink RX6 20 "LaneNetsModel" "high" "[I", Cond.methodLink RX6 159 yX6_at, Cond.static yX6_at, Cond.code yX6_at cX6_at 2 (some .int), Cond.methodLink RX6 155 yX6_changes, Cond.instanceMethod yX6_changes, Cond.selects RX6 yX6_changes yX6_changes, Cond.code yX6_changes cX6_changes 3 (some .boolean)]
def wsX6_fails_r2 : List Cond := [Cond.fieldLink RX6 13 "LaneNetsModel" "kinds" "[I", Cond.fieldLink RX6 23 "LaneNetsModel" "isOn" "[Z", Cond.methodLink RX6 169 yX6_isRising, Cond.instanceMethod yX6_isRising, Cond.selects RX6 yX6_isRising yX6_isRising, Cond.code yX6_isRising cX6_isRising 3 (some .boolean), Cond.methodLink RX6 93 yX6_found, Cond.instanceMethod yX6_found, Cond.selects RX6 yX6_found yX6_found, Cond.code yX6_found cX6_found 2 (some .int), Cond.fieldLink RX6 76 "LaneNetsModel" "findings" "I"]
def wsX6_fails : List Cond := .code yX6_fails cX6_fails 4 (some .int) :: ((wsX6_fails_r1 ++ wsX6_fails_r2) ++ wsX60)
def wsX6_merges_r1 : List Cond := [Cond.fieldLink RX6 7 "LaneNetsModel" "lanes" "I", Cond.fieldLink RX6 79 "LaneNetsModel" "many" "I", Cond.methodLink RX6 82 yX6_in, Cond.static yX6_in, Cond.initialized RX6, Cond.code yX6_in cX6_in 3 (some .boolean), Cond.methodLink RX6 93 yX6_found, Cond.instanceMethod yX6_found, Cond.selects RX6 yX6_found yX6_found, Cond.code yX6_found cX6_found 2 (some .int), Cond.fieldLink RX6 76 "LaneNetsModel" "findings" "I", Cond.methodLink RX6 162 yX6_rows, Cond.instanceMethod yX6_rows, Cond.selects RX6 yX6_rows yX6_rows, Cond.code yX6_rows cX6_rows 1 (some .int), Cond.methodLink RX6 159 yX6_at, Cond.static yX6_at, Cond.code yX6_at cX6_at 2 (some .int), Cond.methodLink RX6 166 yX6_goes, Cond.instanceMethod yX6_goes, Cond.selects RX6 yX6_goes yX6_goes, Cond.code yX6_goes cX6_goes 7 (some .int), Cond.fieldLink RX6 17 "LaneNetsModel" "low" "[I", Cond.fieldLink RX6 20 "LaneNetsModel" "high" "[I"]
def wsX6_merges_r2 : List Cond := [Cond.methodLink RX6 155 yX6_changes, Cond.instanceMethod yX6_changes, Cond.selects RX6 yX6_changes yX6_changes, Cond.code yX6_changes cX6_changes 3 (some .boolean), Cond.fieldLink RX6 13 "LaneNetsModel" "kinds" "[I", Cond.fieldLink RX6 23 "LaneNetsModel" "isOn" "[Z", Cond.methodLink RX6 169 yX6_isRising, Cond.instanceMethod yX6_isRising, Cond.selects RX6 yX6_isRising yX6_isRising, Cond.code yX6_isRising cX6_isRising 3 (some .boolean)]
def wsX6_merges : List Cond := .code yX6_merges cX6_merges 5 (some .int) :: ((wsX6_merges_r1 ++ wsX6_merges_r2) ++ wsX60)
def wsX6_isIdle : List Cond := .code yX6_isIdle cX6_isIdle 4 (some .boolean) :: ([.fieldLink RX6 13 "LaneNetsModel" "kinds" "[I", .fieldLink RX6 17 "LaneNetsModel" "low" "[I", .fieldLink RX6 20 "LaneNetsModel" "high" "[I", .methodLink RX6 162 yX6_rows, .instanceMethod yX6_rows, .selects RX6 yX6_rows yX6_rows, .initialized RX6, .code yX6_rows cX6_rows 1 (some .int), .fieldLink RX6 7 "LaneNetsModel" "lanes" "I", .methodLink RX6 166 yX6_goes, .instanceMethod yX6_goes, .selects RX6 yX6_goes yX6_goes, .code yX6_goes cX6_goes 7 (some .int), .methodLink RX6 159 yX6_at, .static yX6_at, .code yX6_at cX6_at 2 (some .int), .methodLink RX6 155 yX6_changes, .instanceMethod yX6_changes, .selects RX6 yX6_changes yX6_changes, .code yX6_changes cX6_changes 3 (some .boolean), .fieldLink RX6 23 "LaneNetsModel" "isOn" "[Z"] ++ wsX60)
def wsX6_idle_r1 : List Cond := [Cond.methodLink RX6 111 yX6_isComparer, Cond.instanceMethod yX6_isComparer, Cond.selects RX6 yX6_isComparer yX6_isComparer, Cond.initialized RX6, Cond.code yX6_isComparer cX6_isComparer 2 (some .boolean), Cond.fieldLink RX6 79 "LaneNetsModel" "many" "I", Cond.methodLink RX6 82 yX6_in, Cond.static yX6_in, Cond.code yX6_in cX6_in 3 (some .boolean), Cond.methodLink RX6 93 yX6_found, Cond.instanceMethod yX6_found, Cond.selects RX6 yX6_found yX6_found, Cond.code yX6_found cX6_found 2 (some .int), Cond.fieldLink RX6 76 "LaneNetsModel" "findings" "I", Cond.methodLink RX6 175 yX6_isIdle, Cond.instanceMethod yX6_isIdle, Cond.selects RX6 yX6_isIdle yX6_isIdle, Cond.code yX6_isIdle cX6_isIdle 4 (some .boolean), Cond.fieldLink RX6 13 "LaneNetsModel" "kinds" "[I", Cond.fieldLink RX6 17 "LaneNetsModel" "low" "[I", Cond.fieldLink RX6 20 "LaneNetsModel" "high" "[I", Cond.methodLink RX6 162 yX6_rows, Cond.instanceMethod yX6_rows, Cond.selects RX6 yX6_rows yX6_rows]
def wsX6_idle_r2 : List Cond := [Cond.code yX6_rows cX6_rows 1 (some .int), Cond.fieldLink RX6 7 "LaneNetsModel" "lanes" "I", Cond.methodLink RX6 166 yX6_goes, Cond.instanceMethod yX6_goes, Cond.selects RX6 yX6_goes yX6_goes, Cond.code yX6_goes cX6_goes 7 (some .int), Cond.methodLink RX6 159 yX6_at, Cond.static yX6_at, Cond.code yX6_at cX6_at 2 (some .int), Cond.methodLink RX6 155 yX6_changes, Cond.instanceMethod yX6_changes, Cond.selects RX6 yX6_changes yX6_changes, Cond.code yX6_changes cX6_changes 3 (some .boolean), Cond.fieldLink RX6 23 "LaneNetsModel" "isOn" "[Z"]
def wsX6_idle : List Cond := .code yX6_idle cX6_idle 2 (some .int) :: ((wsX6_idle_r1 ++ wsX6_idle_r2) ++ wsX60)
def wsX6_drop_r1 : List Cond := [Cond.fieldLink RX6 79 "LaneNetsModel" "many" "I", Cond.fieldLink RX6 64 "LaneNetsModel" "goesOut" "[Z", Cond.fieldLink RX6 13 "LaneNetsModel" "kinds" "[I", Cond.fieldLink RX6 17 "LaneNetsModel" "low" "[I", Cond.fieldLink RX6 20 "LaneNetsModel" "high" "[I", Cond.fieldLink RX6 23 "LaneNetsModel" "isOn" "[Z", Cond.methodLink RX6 100 yX6_begins, Cond.instanceMethod yX6_begins, Cond.selects RX6 yX6_begins yX6_begins, Cond.initialized RX6, Cond.code yX6_begins cX6_begins 2 none, Cond.fieldLink RX6 86 "LaneNetsModel" "kept" "I", Cond.fieldLink RX6 27 "LaneNetsModel" "thenLanes" "[I", Cond.fieldLink RX6 30 "LaneNetsModel" "thenMany" "[I", Cond.fieldLink RX6 33 "LaneNetsModel" "thenKinds" "[I", Cond.fieldLink RX6 36 "LaneNetsModel" "thenLow" "[I", Cond.fieldLink RX6 39 "LaneNetsModel" "thenHigh" "[I", Cond.fieldLink RX6 42 "LaneNetsModel" "thenOn" "[Z", Cond.methodLink RX6 89 yX6_store, Cond.instanceMethod yX6_store, Cond.selects RX6 yX6_store yX6_store, Cond.code yX6_store cX6_store 3 none, Cond.fieldLink RX6 7 "LaneNetsModel" "lanes" "I", Cond.methodLink RX6 175 yX6_isIdle]
def wsX6_drop_r2 : List Cond := [Cond.instanceMethod yX6_isIdle, Cond.selects RX6 yX6_isIdle yX6_isIdle, Cond.code yX6_isIdle cX6_isIdle 4 (some .boolean), Cond.methodLink RX6 162 yX6_rows, Cond.instanceMethod yX6_rows, Cond.selects RX6 yX6_rows yX6_rows, Cond.code yX6_rows cX6_rows 1 (some .int), Cond.methodLink RX6 166 yX6_goes, Cond.instanceMethod yX6_goes, Cond.selects RX6 yX6_goes yX6_goes, Cond.code yX6_goes cX6_goes 7 (some .int), Cond.methodLink RX6 159 yX6_at, Cond.static yX6_at, Cond.code yX6_at cX6_at 2 (some .int), Cond.methodLink RX6 155 yX6_changes, Cond.instanceMethod yX6_changes, Cond.selects RX6 yX6_changes yX6_changes, Cond.code yX6_changes cX6_changes 3 (some .boolean)]
def wsX6_drop : List Cond := .code yX6_drop cX6_drop 3 (some .int) :: ((wsX6_drop_r1 ++ wsX6_drop_r2) ++ wsX60)
def wsX6_turn_r1 : List Cond := [Cond.fieldLink RX6 79 "LaneNetsModel" "many" "I", Cond.fieldLink RX6 13 "LaneNetsModel" "kinds" "[I", Cond.fieldLink RX6 23 "LaneNetsModel" "isOn" "[Z", Cond.fieldLink RX6 67 "LaneNetsModel" "to" "[I", Cond.fieldLink RX6 17 "LaneNetsModel" "low" "[I", Cond.fieldLink RX6 20 "LaneNetsModel" "high" "[I", Cond.methodLink RX6 93 yX6_found, Cond.instanceMethod yX6_found, Cond.selects RX6 yX6_found yX6_found, Cond.initialized RX6, Cond.code yX6_found cX6_found 2 (some .int), Cond.fieldLink RX6 76 "LaneNetsModel" "findings" "I", Cond.methodLink RX6 100 yX6_begins, Cond.instanceMethod yX6_begins, Cond.selects RX6 yX6_begins yX6_begins, Cond.code yX6_begins cX6_begins 2 none, Cond.fieldLink RX6 86 "LaneNetsModel" "kept" "I", Cond.fieldLink RX6 27 "LaneNetsModel" "thenLanes" "[I", Cond.fieldLink RX6 30 "LaneNetsModel" "thenMany" "[I", Cond.fieldLink RX6 33 "LaneNetsModel" "thenKinds" "[I", Cond.fieldLink RX6 36 "LaneNetsModel" "thenLow" "[I", Cond.fieldLink RX6 39 "LaneNetsModel" "thenHigh" "[I", Cond.fieldLink RX6 42 "LaneNetsModel" "thenOn" "[Z", Cond.methodLink RX6 89 yX6_store]
def wsX6_turn_r2 : List Cond := [Cond.instanceMethod yX6_store, Cond.selects RX6 yX6_store yX6_store, Cond.code yX6_store cX6_store 3 none, Cond.fieldLink RX6 7 "LaneNetsModel" "lanes" "I"]
def wsX6_turn : List Cond := .code yX6_turn cX6_turn 8 (some .int) :: ((wsX6_turn_r1 ++ wsX6_turn_r2) ++ wsX60)
def wsX6_mirror : List Cond := .code yX6_mirror cX6_mirror 3 (some .int) :: ([.fieldLink RX6 79 "LaneNetsModel" "many" "I", .fieldLink RX6 17 "LaneNetsModel" "low" "[I", .fieldLink RX6 7 "LaneNetsModel" "lanes" "I", .fieldLink RX6 20 "LaneNetsModel" "high" "[I", .methodLink RX6 100 yX6_begins, .instanceMethod yX6_begins, .selects RX6 yX6_begins yX6_begins, .initialized RX6, .code yX6_begins cX6_begins 2 none, .fieldLink RX6 86 "LaneNetsModel" "kept" "I", .fieldLink RX6 27 "LaneNetsModel" "thenLanes" "[I", .fieldLink RX6 30 "LaneNetsModel" "thenMany" "[I", .fieldLink RX6 33 "LaneNetsModel" "thenKinds" "[I", .fieldLink RX6 36 "LaneNetsModel" "thenLow" "[I", .fieldLink RX6 39 "LaneNetsModel" "thenHigh" "[I", .fieldLink RX6 42 "LaneNetsModel" "thenOn" "[Z", .methodLink RX6 89 yX6_store, .instanceMethod yX6_store, .selects RX6 yX6_store yX6_store, .code yX6_store cX6_store 3 none, .fieldLink RX6 13 "LaneNetsModel" "kinds" "[I", .fieldLink RX6 23 "LaneNetsModel" "isOn" "[Z"] ++ wsX60)
def wsX6_pair : List Cond := .code yX6_pair cX6_pair 5 (some .int) :: ([.fieldLink RX6 7 "LaneNetsModel" "lanes" "I"] ++ wsX60)
def wsX6_does_r1 : List Cond := [Cond.fieldLink RX6 79 "LaneNetsModel" "many" "I", Cond.fieldLink RX6 70 "LaneNetsModel" "trial" "[I", Cond.methodLink RX6 162 yX6_rows, Cond.instanceMethod yX6_rows, Cond.selects RX6 yX6_rows yX6_rows, Cond.initialized RX6, Cond.code yX6_rows cX6_rows 1 (some .int), Cond.fieldLink RX6 7 "LaneNetsModel" "lanes" "I", Cond.methodLink RX6 166 yX6_goes, Cond.instanceMethod yX6_goes, Cond.selects RX6 yX6_goes yX6_goes, Cond.code yX6_goes cX6_goes 7 (some .int), Cond.fieldLink RX6 17 "LaneNetsModel" "low" "[I", Cond.fieldLink RX6 20 "LaneNetsModel" "high" "[I", Cond.methodLink RX6 159 yX6_at, Cond.static yX6_at, Cond.code yX6_at cX6_at 2 (some .int), Cond.methodLink RX6 155 yX6_changes, Cond.instanceMethod yX6_changes, Cond.selects RX6 yX6_changes yX6_changes, Cond.code yX6_changes cX6_changes 3 (some .boolean), Cond.fieldLink RX6 13 "LaneNetsModel" "kinds" "[I", Cond.fieldLink RX6 23 "LaneNetsModel" "isOn" "[Z", Cond.methodLink RX6 178 yX6_pair]
def wsX6_does_r2 : List Cond := [Cond.instanceMethod yX6_pair, Cond.selects RX6 yX6_pair yX6_pair, Cond.code yX6_pair cX6_pair 5 (some .int), Cond.methodLink RX6 169 yX6_isRising, Cond.instanceMethod yX6_isRising, Cond.selects RX6 yX6_isRising yX6_isRising, Cond.code yX6_isRising cX6_isRising 3 (some .boolean)]
def wsX6_does : List Cond := .code yX6_does cX6_does 6 (some .boolean) :: ((wsX6_does_r1 ++ wsX6_does_r2) ++ wsX60)
def wsX6_shortest_r1 : List Cond := [Cond.fieldLink RX6 7 "LaneNetsModel" "lanes" "I", Cond.fieldLink RX6 70 "LaneNetsModel" "trial" "[I", Cond.methodLink RX6 181 yX6_does, Cond.instanceMethod yX6_does, Cond.selects RX6 yX6_does yX6_does, Cond.initialized RX6, Cond.code yX6_does cX6_does 6 (some .boolean), Cond.fieldLink RX6 79 "LaneNetsModel" "many" "I", Cond.methodLink RX6 162 yX6_rows, Cond.instanceMethod yX6_rows, Cond.selects RX6 yX6_rows yX6_rows, Cond.code yX6_rows cX6_rows 1 (some .int), Cond.methodLink RX6 166 yX6_goes, Cond.instanceMethod yX6_goes, Cond.selects RX6 yX6_goes yX6_goes, Cond.code yX6_goes cX6_goes 7 (some .int), Cond.fieldLink RX6 17 "LaneNetsModel" "low" "[I", Cond.fieldLink RX6 20 "LaneNetsModel" "high" "[I", Cond.methodLink RX6 159 yX6_at, Cond.static yX6_at, Cond.code yX6_at cX6_at 2 (some .int), Cond.methodLink RX6 155 yX6_changes, Cond.instanceMethod yX6_changes, Cond.selects RX6 yX6_changes yX6_changes]
def wsX6_shortest_r2 : List Cond := [Cond.code yX6_changes cX6_changes 3 (some .boolean), Cond.fieldLink RX6 13 "LaneNetsModel" "kinds" "[I", Cond.fieldLink RX6 23 "LaneNetsModel" "isOn" "[Z", Cond.methodLink RX6 178 yX6_pair, Cond.instanceMethod yX6_pair, Cond.selects RX6 yX6_pair yX6_pair, Cond.code yX6_pair cX6_pair 5 (some .int), Cond.methodLink RX6 169 yX6_isRising, Cond.instanceMethod yX6_isRising, Cond.selects RX6 yX6_isRising yX6_isRising, Cond.code yX6_isRising cX6_isRising 3 (some .boolean)]
def wsX6_shortest : List Cond := .code yX6_shortest cX6_shortest 5 (some .int) :: ((wsX6_shortest_r1 ++ wsX6_shortest_r2) ++ wsX60)
def wsX6_missing_r1 : List Cond := [Cond.fieldLink RX6 7 "LaneNetsModel" "lanes" "I", Cond.methodLink RX6 93 yX6_found, Cond.instanceMethod yX6_found, Cond.selects RX6 yX6_found yX6_found, Cond.initialized RX6, Cond.code yX6_found cX6_found 2 (some .int), Cond.fieldLink RX6 76 "LaneNetsModel" "findings" "I", Cond.methodLink RX6 184 yX6_shortest, Cond.instanceMethod yX6_shortest, Cond.selects RX6 yX6_shortest yX6_shortest, Cond.code yX6_shortest cX6_shortest 5 (some .int), Cond.fieldLink RX6 70 "LaneNetsModel" "trial" "[I", Cond.methodLink RX6 181 yX6_does, Cond.instanceMethod yX6_does, Cond.selects RX6 yX6_does yX6_does, Cond.code yX6_does cX6_does 6 (some .boolean), Cond.fieldLink RX6 79 "LaneNetsModel" "many" "I", Cond.methodLink RX6 162 yX6_rows, Cond.instanceMethod yX6_rows, Cond.selects RX6 yX6_rows yX6_rows, Cond.code yX6_rows cX6_rows 1 (some .int), Cond.methodLink RX6 166 yX6_goes, Cond.instanceMethod yX6_goes, Cond.selects RX6 yX6_goes yX6_goes]
def wsX6_missing_r2 : List Cond := [Cond.code yX6_goes cX6_goes 7 (some .int), Cond.fieldLink RX6 17 "LaneNetsModel" "low" "[I", Cond.fieldLink RX6 20 "LaneNetsModel" "high" "[I", Cond.methodLink RX6 159 yX6_at, Cond.static yX6_at, Cond.code yX6_at cX6_at 2 (some .int), Cond.methodLink RX6 155 yX6_changes, Cond.instanceMethod yX6_changes, Cond.selects RX6 yX6_changes yX6_changes, Cond.code yX6_changes cX6_changes 3 (some .boolean), Cond.fieldLink RX6 13 "LaneNetsModel" "kinds" "[I", Cond.fieldLink RX6 23 "LaneNetsModel" "isOn" "[Z", Cond.methodLink RX6 178 yX6_pair, Cond.instanceMethod yX6_pair, Cond.selects RX6 yX6_pair yX6_pair, Cond.code yX6_pair cX6_pair 5 (some .int), Cond.methodLink RX6 169 yX6_isRising, Cond.instanceMethod yX6_isRising, Cond.selects RX6 yX6_isRising yX6_isRising, Cond.code yX6_isRising cX6_isRising 3 (some .boolean)]
def wsX6_missing : List Cond := .code yX6_missing cX6_missing 1 (some .int) :: ((wsX6_missing_r1 ++ wsX6_missing_r2) ++ wsX60)
def wsX6_next_r1 : List Cond := [Cond.fieldLink RX6 7 "LaneNetsModel" "lanes" "I", Cond.fieldLink RX6 70 "LaneNetsModel" "trial" "[I", Cond.methodLink RX6 93 yX6_found, Cond.instanceMethod yX6_found, Cond.selects RX6 yX6_found yX6_found, Cond.initialized RX6, Cond.code yX6_found cX6_found 2 (some .int), Cond.fieldLink RX6 76 "LaneNetsModel" "findings" "I", Cond.methodLink RX6 184 yX6_shortest, Cond.instanceMethod yX6_shortest, Cond.selects RX6 yX6_shortest yX6_shortest, Cond.code yX6_shortest cX6_shortest 5 (some .int), Cond.methodLink RX6 181 yX6_does, Cond.instanceMethod yX6_does, Cond.selects RX6 yX6_does yX6_does, Cond.code yX6_does cX6_does 6 (some .boolean), Cond.fieldLink RX6 79 "LaneNetsModel" "many" "I", Cond.methodLink RX6 162 yX6_rows, Cond.instanceMethod yX6_rows, Cond.selects RX6 yX6_rows yX6_rows, Cond.code yX6_rows cX6_rows 1 (some .int), Cond.methodLink RX6 166 yX6_goes, Cond.instanceMethod yX6_goes, Cond.selects RX6 yX6_goes yX6_goes]
def wsX6_next_r2 : List Cond := [Cond.code yX6_goes cX6_goes 7 (some .int), Cond.fieldLink RX6 17 "LaneNetsModel" "low" "[I", Cond.fieldLink RX6 20 "LaneNetsModel" "high" "[I", Cond.methodLink RX6 159 yX6_at, Cond.static yX6_at, Cond.code yX6_at cX6_at 2 (some .int), Cond.methodLink RX6 155 yX6_changes, Cond.instanceMethod yX6_changes, Cond.selects RX6 yX6_changes yX6_changes, Cond.code yX6_changes cX6_changes 3 (some .boolean), Cond.fieldLink RX6 13 "LaneNetsModel" "kinds" "[I", Cond.fieldLink RX6 23 "LaneNetsModel" "isOn" "[Z", Cond.methodLink RX6 178 yX6_pair, Cond.instanceMethod yX6_pair, Cond.selects RX6 yX6_pair yX6_pair, Cond.code yX6_pair cX6_pair 5 (some .int), Cond.methodLink RX6 169 yX6_isRising, Cond.instanceMethod yX6_isRising, Cond.selects RX6 yX6_isRising yX6_isRising, Cond.code yX6_isRising cX6_isRising 3 (some .boolean), Cond.methodLink RX6 82 yX6_in, Cond.static yX6_in, Cond.code yX6_in cX6_in 3 (some .boolean)]
def wsX6_next : List Cond := .code yX6_next cX6_next 3 (some .int) :: ((wsX6_next_r1 ++ wsX6_next_r2) ++ wsX60)
def wsX6_bears_r1 : List Cond := [Cond.fieldLink RX6 79 "LaneNetsModel" "many" "I", Cond.methodLink RX6 187 yX6_sorts, Cond.instanceMethod yX6_sorts, Cond.selects RX6 yX6_sorts yX6_sorts, Cond.initialized RX6, Cond.code yX6_sorts cX6_sorts 1 (some .int), Cond.methodLink RX6 172 yX6_failing, Cond.instanceMethod yX6_failing, Cond.selects RX6 yX6_failing yX6_failing, Cond.code yX6_failing cX6_failing 3 (some .int), Cond.methodLink RX6 162 yX6_rows, Cond.instanceMethod yX6_rows, Cond.selects RX6 yX6_rows yX6_rows, Cond.code yX6_rows cX6_rows 1 (some .int), Cond.fieldLink RX6 7 "LaneNetsModel" "lanes" "I", Cond.methodLink RX6 166 yX6_goes, Cond.instanceMethod yX6_goes, Cond.selects RX6 yX6_goes yX6_goes, Cond.code yX6_goes cX6_goes 7 (some .int), Cond.fieldLink RX6 17 "LaneNetsModel" "low" "[I", Cond.fieldLink RX6 20 "LaneNetsModel" "high" "[I", Cond.methodLink RX6 159 yX6_at, Cond.static yX6_at, Cond.code yX6_at cX6_at 2 (some .int)]
def wsX6_bears_r2 : List Cond := [Cond.methodLink RX6 155 yX6_changes, Cond.instanceMethod yX6_changes, Cond.selects RX6 yX6_changes yX6_changes, Cond.code yX6_changes cX6_changes 3 (some .boolean), Cond.fieldLink RX6 13 "LaneNetsModel" "kinds" "[I", Cond.fieldLink RX6 23 "LaneNetsModel" "isOn" "[Z", Cond.methodLink RX6 169 yX6_isRising, Cond.instanceMethod yX6_isRising, Cond.selects RX6 yX6_isRising yX6_isRising, Cond.code yX6_isRising cX6_isRising 3 (some .boolean)]
def wsX6_bears : List Cond := .code yX6_bears cX6_bears 2 (some .int) :: ((wsX6_bears_r1 ++ wsX6_bears_r2) ++ wsX60)
def wsX6_weak_r1 : List Cond := [Cond.methodLink RX6 111 yX6_isComparer, Cond.instanceMethod yX6_isComparer, Cond.selects RX6 yX6_isComparer yX6_isComparer, Cond.initialized RX6, Cond.code yX6_isComparer cX6_isComparer 2 (some .boolean), Cond.fieldLink RX6 79 "LaneNetsModel" "many" "I", Cond.methodLink RX6 82 yX6_in, Cond.static yX6_in, Cond.code yX6_in cX6_in 3 (some .boolean), Cond.methodLink RX6 93 yX6_found, Cond.instanceMethod yX6_found, Cond.selects RX6 yX6_found yX6_found, Cond.code yX6_found cX6_found 2 (some .int), Cond.fieldLink RX6 76 "LaneNetsModel" "findings" "I", Cond.methodLink RX6 172 yX6_failing, Cond.instanceMethod yX6_failing, Cond.selects RX6 yX6_failing yX6_failing, Cond.code yX6_failing cX6_failing 3 (some .int), Cond.methodLink RX6 162 yX6_rows, Cond.instanceMethod yX6_rows, Cond.selects RX6 yX6_rows yX6_rows, Cond.code yX6_rows cX6_rows 1 (some .int), Cond.fieldLink RX6 7 "LaneNetsModel" "lanes" "I", Cond.methodLink RX6 166 yX6_goes]
def wsX6_weak_r2 : List Cond := [Cond.instanceMethod yX6_goes, Cond.selects RX6 yX6_goes yX6_goes, Cond.code yX6_goes cX6_goes 7 (some .int), Cond.fieldLink RX6 17 "LaneNetsModel" "low" "[I", Cond.fieldLink RX6 20 "LaneNetsModel" "high" "[I", Cond.methodLink RX6 159 yX6_at, Cond.static yX6_at, Cond.code yX6_at cX6_at 2 (some .int), Cond.methodLink RX6 155 yX6_changes, Cond.instanceMethod yX6_changes, Cond.selects RX6 yX6_changes yX6_changes, Cond.code yX6_changes cX6_changes 3 (some .boolean), Cond.fieldLink RX6 13 "LaneNetsModel" "kinds" "[I", Cond.fieldLink RX6 23 "LaneNetsModel" "isOn" "[Z", Cond.methodLink RX6 169 yX6_isRising, Cond.instanceMethod yX6_isRising, Cond.selects RX6 yX6_isRising yX6_isRising, Cond.code yX6_isRising cX6_isRising 3 (some .boolean)]
def wsX6_weak : List Cond := .code yX6_weak cX6_weak 3 (some .int) :: ((wsX6_weak_r1 ++ wsX6_weak_r2) ++ wsX60)
def wsX6_isSlot : List Cond := .code yX6_isSlot cX6_isSlot 1 (some .boolean) :: ([.methodLink RX6 82 yX6_in, .static yX6_in, .initialized RX6, .code yX6_in cX6_in 3 (some .boolean)])
def wsX6_keep_r1 : List Cond := [Cond.fieldLink RX6 79 "LaneNetsModel" "many" "I", Cond.methodLink RX6 190 yX6_isSlot, Cond.static yX6_isSlot, Cond.initialized RX6, Cond.code yX6_isSlot cX6_isSlot 1 (some .boolean), Cond.methodLink RX6 82 yX6_in, Cond.static yX6_in, Cond.code yX6_in cX6_in 3 (some .boolean), Cond.methodLink RX6 93 yX6_found, Cond.instanceMethod yX6_found, Cond.selects RX6 yX6_found yX6_found, Cond.code yX6_found cX6_found 2 (some .int), Cond.fieldLink RX6 76 "LaneNetsModel" "findings" "I", Cond.methodLink RX6 89 yX6_store, Cond.instanceMethod yX6_store, Cond.selects RX6 yX6_store yX6_store, Cond.code yX6_store cX6_store 3 none, Cond.fieldLink RX6 27 "LaneNetsModel" "thenLanes" "[I", Cond.fieldLink RX6 7 "LaneNetsModel" "lanes" "I", Cond.fieldLink RX6 30 "LaneNetsModel" "thenMany" "[I", Cond.fieldLink RX6 33 "LaneNetsModel" "thenKinds" "[I", Cond.fieldLink RX6 13 "LaneNetsModel" "kinds" "[I", Cond.fieldLink RX6 36 "LaneNetsModel" "thenLow" "[I", Cond.fieldLink RX6 17 "LaneNetsModel" "low" "[I"]
def wsX6_keep_r2 : List Cond := [Cond.fieldLink RX6 39 "LaneNetsModel" "thenHigh" "[I", Cond.fieldLink RX6 20 "LaneNetsModel" "high" "[I", Cond.fieldLink RX6 42 "LaneNetsModel" "thenOn" "[Z", Cond.fieldLink RX6 23 "LaneNetsModel" "isOn" "[Z"]
def wsX6_keep : List Cond := .code yX6_keep cX6_keep 2 (some .int) :: ((wsX6_keep_r1 ++ wsX6_keep_r2) ++ wsX60)
def wsX6_bring_r1 : List Cond := [Cond.fieldLink RX6 27 "LaneNetsModel" "thenLanes" "[I", Cond.fieldLink RX6 79 "LaneNetsModel" "many" "I", Cond.methodLink RX6 190 yX6_isSlot, Cond.static yX6_isSlot, Cond.initialized RX6, Cond.code yX6_isSlot cX6_isSlot 1 (some .boolean), Cond.methodLink RX6 82 yX6_in, Cond.static yX6_in, Cond.code yX6_in cX6_in 3 (some .boolean), Cond.methodLink RX6 93 yX6_found, Cond.instanceMethod yX6_found, Cond.selects RX6 yX6_found yX6_found, Cond.code yX6_found cX6_found 2 (some .int), Cond.fieldLink RX6 76 "LaneNetsModel" "findings" "I", Cond.methodLink RX6 100 yX6_begins, Cond.instanceMethod yX6_begins, Cond.selects RX6 yX6_begins yX6_begins, Cond.code yX6_begins cX6_begins 2 none, Cond.fieldLink RX6 86 "LaneNetsModel" "kept" "I", Cond.fieldLink RX6 30 "LaneNetsModel" "thenMany" "[I", Cond.fieldLink RX6 33 "LaneNetsModel" "thenKinds" "[I", Cond.fieldLink RX6 36 "LaneNetsModel" "thenLow" "[I", Cond.fieldLink RX6 39 "LaneNetsModel" "thenHigh" "[I", Cond.fieldLink RX6 42 "LaneNetsModel" "thenOn" "[Z"]
def wsX6_bring_r2 : List Cond := [Cond.methodLink RX6 89 yX6_store, Cond.instanceMethod yX6_store, Cond.selects RX6 yX6_store yX6_store, Cond.code yX6_store cX6_store 3 none, Cond.fieldLink RX6 7 "LaneNetsModel" "lanes" "I", Cond.fieldLink RX6 13 "LaneNetsModel" "kinds" "[I", Cond.fieldLink RX6 17 "LaneNetsModel" "low" "[I", Cond.fieldLink RX6 20 "LaneNetsModel" "high" "[I", Cond.fieldLink RX6 23 "LaneNetsModel" "isOn" "[Z", Cond.methodLink RX6 97 yX6_restore, Cond.instanceMethod yX6_restore, Cond.selects RX6 yX6_restore yX6_restore, Cond.code yX6_restore cX6_restore 3 none]
def wsX6_bring : List Cond := .code yX6_bring cX6_bring 2 (some .int) :: ((wsX6_bring_r1 ++ wsX6_bring_r2) ++ wsX60)
def wsX6_follow_r1 : List Cond := [Cond.fieldLink RX6 27 "LaneNetsModel" "thenLanes" "[I", Cond.fieldLink RX6 7 "LaneNetsModel" "lanes" "I", Cond.fieldLink RX6 79 "LaneNetsModel" "many" "I", Cond.fieldLink RX6 30 "LaneNetsModel" "thenMany" "[I", Cond.fieldLink RX6 13 "LaneNetsModel" "kinds" "[I", Cond.fieldLink RX6 33 "LaneNetsModel" "thenKinds" "[I", Cond.fieldLink RX6 17 "LaneNetsModel" "low" "[I", Cond.fieldLink RX6 36 "LaneNetsModel" "thenLow" "[I", Cond.fieldLink RX6 20 "LaneNetsModel" "high" "[I", Cond.fieldLink RX6 39 "LaneNetsModel" "thenHigh" "[I", Cond.fieldLink RX6 23 "LaneNetsModel" "isOn" "[Z", Cond.fieldLink RX6 42 "LaneNetsModel" "thenOn" "[Z", Cond.methodLink RX6 190 yX6_isSlot, Cond.static yX6_isSlot, Cond.initialized RX6, Cond.code yX6_isSlot cX6_isSlot 1 (some .boolean), Cond.methodLink RX6 82 yX6_in, Cond.static yX6_in, Cond.code yX6_in cX6_in 3 (some .boolean), Cond.methodLink RX6 93 yX6_found, Cond.instanceMethod yX6_found, Cond.selects RX6 yX6_found yX6_found, Cond.code yX6_found cX6_found 2 (some .int), Cond.fieldLink RX6 76 "LaneNetsModel" "findings" "I"]
def wsX6_follow_r2 : List Cond := [Cond.methodLink RX6 100 yX6_begins, Cond.instanceMethod yX6_begins, Cond.selects RX6 yX6_begins yX6_begins, Cond.code yX6_begins cX6_begins 2 none, Cond.fieldLink RX6 86 "LaneNetsModel" "kept" "I", Cond.methodLink RX6 89 yX6_store, Cond.instanceMethod yX6_store, Cond.selects RX6 yX6_store yX6_store, Cond.code yX6_store cX6_store 3 none]
def wsX6_follow : List Cond := .code yX6_follow cX6_follow 4 (some .int) :: ((wsX6_follow_r1 ++ wsX6_follow_r2) ++ wsX60)
def wsX6_unlike_r1 : List Cond := [Cond.fieldLink RX6 27 "LaneNetsModel" "thenLanes" "[I", Cond.fieldLink RX6 7 "LaneNetsModel" "lanes" "I", Cond.fieldLink RX6 73 "LaneNetsModel" "outs" "[I", Cond.fieldLink RX6 79 "LaneNetsModel" "many" "I", Cond.methodLink RX6 190 yX6_isSlot, Cond.static yX6_isSlot, Cond.initialized RX6, Cond.code yX6_isSlot cX6_isSlot 1 (some .boolean), Cond.methodLink RX6 82 yX6_in, Cond.static yX6_in, Cond.code yX6_in cX6_in 3 (some .boolean), Cond.methodLink RX6 93 yX6_found, Cond.instanceMethod yX6_found, Cond.selects RX6 yX6_found yX6_found, Cond.code yX6_found cX6_found 2 (some .int), Cond.fieldLink RX6 76 "LaneNetsModel" "findings" "I", Cond.methodLink RX6 162 yX6_rows, Cond.instanceMethod yX6_rows, Cond.selects RX6 yX6_rows yX6_rows, Cond.code yX6_rows cX6_rows 1 (some .int), Cond.methodLink RX6 166 yX6_goes, Cond.instanceMethod yX6_goes, Cond.selects RX6 yX6_goes yX6_goes, Cond.code yX6_goes cX6_goes 7 (some .int)]
def wsX6_unlike_r2 : List Cond := [Cond.fieldLink RX6 17 "LaneNetsModel" "low" "[I", Cond.fieldLink RX6 20 "LaneNetsModel" "high" "[I", Cond.methodLink RX6 159 yX6_at, Cond.static yX6_at, Cond.code yX6_at cX6_at 2 (some .int), Cond.methodLink RX6 155 yX6_changes, Cond.instanceMethod yX6_changes, Cond.selects RX6 yX6_changes yX6_changes, Cond.code yX6_changes cX6_changes 3 (some .boolean), Cond.fieldLink RX6 13 "LaneNetsModel" "kinds" "[I", Cond.fieldLink RX6 23 "LaneNetsModel" "isOn" "[Z", Cond.methodLink RX6 89 yX6_store, Cond.instanceMethod yX6_store, Cond.selects RX6 yX6_store yX6_store, Cond.code yX6_store cX6_store 3 none, Cond.fieldLink RX6 30 "LaneNetsModel" "thenMany" "[I", Cond.fieldLink RX6 33 "LaneNetsModel" "thenKinds" "[I", Cond.fieldLink RX6 36 "LaneNetsModel" "thenLow" "[I", Cond.fieldLink RX6 39 "LaneNetsModel" "thenHigh" "[I", Cond.fieldLink RX6 42 "LaneNetsModel" "thenOn" "[Z", Cond.methodLink RX6 97 yX6_restore, Cond.instanceMethod yX6_restore, Cond.selects RX6 yX6_restore yX6_restore, Cond.code yX6_restore cX6_restore 3 none]
def wsX6_unlike : List Cond := .code yX6_unlike cX6_unlike 5 (some .int) :: ((wsX6_unlike_r1 ++ wsX6_unlike_r2) ++ wsX60)
def wsX6_tell : List Cond := .code yX6_tell cX6_tell 2 (some .int) :: ([.fieldLink RX6 193 "LaneNetsModel" "waiting" "I", .fieldLink RX6 55 "LaneNetsModel" "waits" "[I", .methodLink RX6 93 yX6_found, .instanceMethod yX6_found, .selects RX6 yX6_found yX6_found, .initialized RX6, .code yX6_found cX6_found 2 (some .int), .fieldLink RX6 76 "LaneNetsModel" "findings" "I"] ++ wsX60)
def wsX6_would_r1 : List Cond := [Cond.fieldLink RX6 193 "LaneNetsModel" "waiting" "I", Cond.fieldLink RX6 55 "LaneNetsModel" "waits" "[I", Cond.fieldLink RX6 79 "LaneNetsModel" "many" "I", Cond.methodLink RX6 93 yX6_found, Cond.instanceMethod yX6_found, Cond.selects RX6 yX6_found yX6_found, Cond.initialized RX6, Cond.code yX6_found cX6_found 2 (some .int), Cond.fieldLink RX6 76 "LaneNetsModel" "findings" "I", Cond.methodLink RX6 103 yX6_isLane, Cond.instanceMethod yX6_isLane, Cond.selects RX6 yX6_isLane yX6_isLane, Cond.code yX6_isLane cX6_isLane 2 (some .boolean), Cond.fieldLink RX6 7 "LaneNetsModel" "lanes" "I", Cond.methodLink RX6 82 yX6_in, Cond.static yX6_in, Cond.code yX6_in cX6_in 3 (some .boolean), Cond.methodLink RX6 162 yX6_rows, Cond.instanceMethod yX6_rows, Cond.selects RX6 yX6_rows yX6_rows, Cond.code yX6_rows cX6_rows 1 (some .int), Cond.methodLink RX6 166 yX6_goes, Cond.instanceMethod yX6_goes, Cond.selects RX6 yX6_goes yX6_goes]
def wsX6_would_r2 : List Cond := [Cond.code yX6_goes cX6_goes 7 (some .int), Cond.fieldLink RX6 17 "LaneNetsModel" "low" "[I", Cond.fieldLink RX6 20 "LaneNetsModel" "high" "[I", Cond.methodLink RX6 159 yX6_at, Cond.static yX6_at, Cond.code yX6_at cX6_at 2 (some .int), Cond.methodLink RX6 155 yX6_changes, Cond.instanceMethod yX6_changes, Cond.selects RX6 yX6_changes yX6_changes, Cond.code yX6_changes cX6_changes 3 (some .boolean), Cond.fieldLink RX6 13 "LaneNetsModel" "kinds" "[I", Cond.fieldLink RX6 23 "LaneNetsModel" "isOn" "[Z", Cond.methodLink RX6 169 yX6_isRising, Cond.instanceMethod yX6_isRising, Cond.selects RX6 yX6_isRising yX6_isRising, Cond.code yX6_isRising cX6_isRising 3 (some .boolean)]
def wsX6_would : List Cond := .code yX6_would cX6_would 5 (some .int) :: ((wsX6_would_r1 ++ wsX6_would_r2) ++ wsX60)
def wsX6_told : List Cond := .code yX6_told cX6_told 2 (some .int) :: ([.fieldLink RX6 7 "LaneNetsModel" "lanes" "I", .fieldLink RX6 79 "LaneNetsModel" "many" "I", .fieldLink RX6 193 "LaneNetsModel" "waiting" "I", .fieldLink RX6 76 "LaneNetsModel" "findings" "I", .methodLink RX6 93 yX6_found, .instanceMethod yX6_found, .selects RX6 yX6_found yX6_found, .initialized RX6, .code yX6_found cX6_found 2 (some .int)] ++ wsX60)
def wsJ9_max_7cf53 : List Cond := .code yJ9_max_7cf53 cJ9_max_7cf53 2 (some .int) :: ([])
def wsJ9_min_7cf53 : List Cond := .code yJ9_min_7cf53 cJ9_min_7cf53 2 (some .int) :: ([])
def wsL_law_r1 : List Cond := [Cond.classLink RL 7 RX5, Cond.instantiable RX5 11, Cond.initialized RX5, Cond.classLink RL 10 RX6, Cond.instantiable RX6 25, Cond.initialized RX6, Cond.constantLong RL 54 (4294967295), Cond.methodLink RL 9 yX5_init, Cond.instanceMethod yX5_init, Cond.code yX5_init cX5_init 2 none, Cond.methodLink RX5 1 objectInit, Cond.instanceMethod objectInit, Cond.code objectInit ⟨#[0xb1]⟩ 1 none, Cond.classLink RX5 7 RX3, Cond.instantiable RX3 3, Cond.initialized RX3, Cond.fieldLink RX5 10 "LaneNets" "net" "LLaneNets$Net;", Cond.fieldLink RX5 16 "LaneNets" "slots" "[LLaneNets$Net;", Cond.classLink RX5 20 RX2, Cond.instantiable RX2 3, Cond.initialized RX2, Cond.fieldLink RX5 23 "LaneNets" "history" "LLaneNets$History;", Cond.classLink RX5 27 RX1, Cond.fieldLink RX5 29 "LaneNets" "crates" "[LLaneNets$Crate;"]
def wsL_law_r2 : List Cond := [Cond.classLink RX5 33 RX4, Cond.instantiable RX4 2, Cond.initialized RX4, Cond.fieldLink RX5 36 "LaneNets" "rows" "LLaneNets$Rows;", Cond.fieldLink RX5 40 "LaneNets" "otherRows" "LLaneNets$Rows;", Cond.classLink RX5 43 RX0, Cond.instantiable RX0 4, Cond.initialized RX0, Cond.fieldLink RX5 46 "LaneNets" "completion" "LLaneNets$Completion;", Cond.arrayClass .int, Cond.fieldLink RX5 50 "LaneNets" "laneNumbers" "[I", Cond.fieldLink RX5 54 "LaneNets" "waiting" "[I", Cond.fieldLink RX5 57 "LaneNets" "waits" "I", Cond.fieldLink RX5 61 "LaneNets" "findings" "I", Cond.instantiable RX1 3, Cond.initialized RX1, Cond.instanceMethod yX3_init, Cond.code yX3_init cX3_init 1 none, Cond.methodLink RX3 3 objectInit, Cond.fieldLink RX3 9 "LaneNets$Net" "lanes" "I", Cond.fieldLink RX3 15 "LaneNets$Net" "count" "I", Cond.fieldLink RX3 18 "LaneNets$Net" "comparers" "[I", Cond.methodLink RX5 22 yX2_init, Cond.instanceMethod yX2_init]
def wsL_law_r3 : List Cond := [Cond.code yX2_init cX2_init 2 none, Cond.methodLink RX2 3 objectInit, Cond.classLink RX2 9 RX3, Cond.fieldLink RX2 11 "LaneNets$History" "nets" "[LLaneNets$Net;", Cond.fieldLink RX2 17 "LaneNets$History" "free" "I", Cond.fieldLink RX2 21 "LaneNets$History" "held" "I", Cond.instanceMethod yX4_init, Cond.code yX4_init cX4_init 1 none, Cond.methodLink RX4 3 objectInit, Cond.arrayClass .long, Cond.fieldLink RX4 9 "LaneNets$Rows" "columns" "[J", Cond.fieldLink RX4 15 "LaneNets$Rows" "all" "J", Cond.instanceMethod yX0_init, Cond.code yX0_init cX0_init 1 none, Cond.methodLink RX0 3 objectInit, Cond.fieldLink RX0 9 "LaneNets$Completion" "pairs" "[I", Cond.fieldLink RX0 15 "LaneNets$Completion" "fewest" "I", Cond.fieldLink RX0 19 "LaneNets$Completion" "knownLanes" "I", Cond.fieldLink RX0 22 "LaneNets$Completion" "knownColumns" "J", Cond.methodLink RX5 64 yX3_clear, Cond.instanceMethod yX3_clear, Cond.selects RX3 yX3_clear yX3_clear, Cond.code yX3_clear cX3_clear 2 none, Cond.instanceMethod yX1_init]
def wsL_law_r4 : List Cond := [Cond.code yX1_init cX1_init 1 none, Cond.methodLink RX1 3 objectInit, Cond.fieldLink RX1 9 "LaneNets$Crate" "kind" "I", Cond.fieldLink RX1 15 "LaneNets$Crate" "count" "I", Cond.fieldLink RX1 18 "LaneNets$Crate" "loads" "[J", Cond.methodLink RL 12 yX6_init, Cond.instanceMethod yX6_init, Cond.code yX6_init cX6_init 1 none, Cond.methodLink RX6 1 objectInit, Cond.fieldLink RX6 7 "LaneNetsModel" "lanes" "I", Cond.fieldLink RX6 13 "LaneNetsModel" "kinds" "[I", Cond.fieldLink RX6 17 "LaneNetsModel" "low" "[I", Cond.fieldLink RX6 20 "LaneNetsModel" "high" "[I", Cond.arrayClass .boolean, Cond.fieldLink RX6 23 "LaneNetsModel" "isOn" "[Z", Cond.fieldLink RX6 27 "LaneNetsModel" "thenLanes" "[I", Cond.fieldLink RX6 30 "LaneNetsModel" "thenMany" "[I", Cond.fieldLink RX6 33 "LaneNetsModel" "thenKinds" "[I", Cond.fieldLink RX6 36 "LaneNetsModel" "thenLow" "[I", Cond.fieldLink RX6 39 "LaneNetsModel" "thenHigh" "[I", Cond.fieldLink RX6 42 "LaneNetsModel" "thenOn" "[Z", Cond.fieldLink RX6 45 "LaneNetsModel" "crateKind" "[I", Cond.fieldLink RX6 48 "LaneNetsModel" "crateSize" "[I", Cond.fieldLink RX6 51 "LaneNetsModel" "loads" "[J"]
def wsL_law_r5 : List Cond := [Cond.fieldLink RX6 55 "LaneNetsModel" "waits" "[I", Cond.fieldLink RX6 58 "LaneNetsModel" "roundRow" "[I", Cond.fieldLink RX6 61 "LaneNetsModel" "carried" "[J", Cond.fieldLink RX6 64 "LaneNetsModel" "goesOut" "[Z", Cond.fieldLink RX6 67 "LaneNetsModel" "to" "[I", Cond.fieldLink RX6 70 "LaneNetsModel" "trial" "[I", Cond.fieldLink RX6 73 "LaneNetsModel" "outs" "[I", Cond.methodLink RL 13 yX5_lanes, Cond.instanceMethod yX5_lanes, Cond.selects RX5 yX5_lanes yX5_lanes, Cond.code yX5_lanes cX5_lanes 3 (some .int), Cond.fieldLink RX5 77 "LaneNets$Net" "count" "I", Cond.methodLink RX5 69 yX5_finding, Cond.instanceMethod yX5_finding, Cond.selects RX5 yX5_finding yX5_finding, Cond.code yX5_finding cX5_finding 2 (some .int), Cond.methodLink RX5 73 yX2_remember, Cond.instanceMethod yX2_remember, Cond.selects RX2 yX2_remember yX2_remember, Cond.code yX2_remember cX2_remember 2 none, Cond.methodLink RX2 29 Lib.Math.min.name, Cond.static Lib.Math.min.name, Cond.initialized "java/lang/Math", Cond.code Lib.Math.min.name Lib.Math.min.code 2 (some .int)]
def wsL_law_r6 : List Cond := [Cond.methodLink RX2 25 yX3_become, Cond.instanceMethod yX3_become, Cond.selects RX3 yX3_become yX3_become, Cond.code yX3_become cX3_become 2 none, Cond.methodLink RX3 33 arraycopyName, Cond.native arraycopyName, Cond.static arraycopyName, Cond.initialized "java/lang/System", Cond.methodLink RL 17 yX6_lanes, Cond.instanceMethod yX6_lanes, Cond.selects RX6 yX6_lanes yX6_lanes, Cond.code yX6_lanes cX6_lanes 3 (some .int), Cond.fieldLink RX6 79 "LaneNetsModel" "many" "I", Cond.methodLink RX6 82 yX6_in, Cond.static yX6_in, Cond.code yX6_in cX6_in 3 (some .boolean), Cond.methodLink RX6 93 yX6_found, Cond.instanceMethod yX6_found, Cond.selects RX6 yX6_found yX6_found, Cond.code yX6_found cX6_found 2 (some .int), Cond.fieldLink RX6 76 "LaneNetsModel" "findings" "I", Cond.methodLink RX6 100 yX6_begins, Cond.instanceMethod yX6_begins, Cond.selects RX6 yX6_begins yX6_begins]
def wsL_law_r7 : List Cond := [Cond.code yX6_begins cX6_begins 2 none, Cond.fieldLink RX6 86 "LaneNetsModel" "kept" "I", Cond.methodLink RX6 89 yX6_store, Cond.instanceMethod yX6_store, Cond.selects RX6 yX6_store yX6_store, Cond.code yX6_store cX6_store 3 none, Cond.methodLink RL 18 yX5_comparer, Cond.instanceMethod yX5_comparer, Cond.selects RX5 yX5_comparer yX5_comparer, Cond.code yX5_comparer cX5_comparer 4 (some .int), Cond.methodLink RX5 80 yX5_isKind, Cond.static yX5_isKind, Cond.code yX5_isKind cX5_isKind 1 (some .boolean), Cond.methodLink RX5 84 yX3_hasLane, Cond.instanceMethod yX3_hasLane, Cond.selects RX3 yX3_hasLane yX3_hasLane, Cond.code yX3_hasLane cX3_hasLane 2 (some .boolean), Cond.methodLink RX5 87 yX3_add, Cond.instanceMethod yX3_add, Cond.selects RX3 yX3_add yX3_add, Cond.code yX3_add cX3_add 4 none, Cond.methodLink RX3 29 yX3_write, Cond.instanceMethod yX3_write, Cond.selects RX3 yX3_write yX3_write]
def wsL_law_r8 : List Cond := [Cond.code yX3_write cX3_write 6 none, Cond.methodLink RL 22 yX6_comparer, Cond.instanceMethod yX6_comparer, Cond.selects RX6 yX6_comparer yX6_comparer, Cond.code yX6_comparer cX6_comparer 4 (some .int), Cond.methodLink RX6 103 yX6_isLane, Cond.instanceMethod yX6_isLane, Cond.selects RX6 yX6_isLane yX6_isLane, Cond.code yX6_isLane cX6_isLane 2 (some .boolean), Cond.methodLink RX6 107 yX6_add, Cond.instanceMethod yX6_add, Cond.selects RX6 yX6_add yX6_add, Cond.code yX6_add cX6_add 4 none, Cond.methodLink RL 23 yX5_cut, Cond.instanceMethod yX5_cut, Cond.selects RX5 yX5_cut yX5_cut, Cond.code yX5_cut cX5_cut 3 (some .int), Cond.methodLink RL 26 yX6_cut, Cond.instanceMethod yX6_cut, Cond.selects RX6 yX6_cut yX6_cut, Cond.code yX6_cut cX6_cut 3 (some .int), Cond.methodLink RL 27 yX5_change, Cond.instanceMethod yX5_change, Cond.selects RX5 yX5_change yX5_change]
def wsL_law_r9 : List Cond := [Cond.code yX5_change cX5_change 4 (some .int), Cond.methodLink RX5 91 yX3_has, Cond.instanceMethod yX3_has, Cond.selects RX3 yX3_has yX3_has, Cond.code yX3_has cX3_has 2 (some .boolean), Cond.methodLink RX5 94 yX3_kind, Cond.instanceMethod yX3_kind, Cond.selects RX3 yX3_kind yX3_kind, Cond.code yX3_kind cX3_kind 2 (some .int), Cond.methodLink RX5 97 yX3_low, Cond.instanceMethod yX3_low, Cond.selects RX3 yX3_low yX3_low, Cond.code yX3_low cX3_low 2 (some .int), Cond.methodLink RX5 100 yX3_high, Cond.instanceMethod yX3_high, Cond.selects RX3 yX3_high yX3_high, Cond.code yX3_high cX3_high 2 (some .int), Cond.methodLink RX5 103 yX3_write, Cond.methodLink RL 31 yX6_change, Cond.instanceMethod yX6_change, Cond.selects RX6 yX6_change yX6_change, Cond.code yX6_change cX6_change 4 (some .int), Cond.methodLink RX6 111 yX6_isComparer, Cond.instanceMethod yX6_isComparer]
def wsL_law_r10 : List Cond := [Cond.selects RX6 yX6_isComparer yX6_isComparer, Cond.code yX6_isComparer cX6_isComparer 2 (some .boolean), Cond.methodLink RL 32 yX5_turnSwitch, Cond.instanceMethod yX5_turnSwitch, Cond.selects RX5 yX5_turnSwitch yX5_turnSwitch, Cond.code yX5_turnSwitch cX5_turnSwitch 4 (some .int), Cond.methodLink RX5 107 yX3_switchOf, Cond.instanceMethod yX3_switchOf, Cond.selects RX3 yX3_switchOf yX3_switchOf, Cond.code yX3_switchOf cX3_switchOf 2 (some .int), Cond.methodLink RX5 110 yX3_setSwitch, Cond.instanceMethod yX3_setSwitch, Cond.selects RX3 yX3_setSwitch yX3_setSwitch, Cond.code yX3_setSwitch cX3_setSwitch 3 none, Cond.methodLink RL 36 yX6_turnSwitch, Cond.instanceMethod yX6_turnSwitch, Cond.selects RX6 yX6_turnSwitch yX6_turnSwitch, Cond.code yX6_turnSwitch cX6_turnSwitch 4 (some .int), Cond.methodLink RL 37 yX5_as, Cond.instanceMethod yX5_as, Cond.selects RX5 yX5_as yX5_as, Cond.code yX5_as cX5_as 3 (some .int), Cond.methodLink RX5 114 yX5_isUnder, Cond.static yX5_isUnder]
def wsL_law_r11 : List Cond := [Cond.code yX5_isUnder cX5_isUnder 4 (some .boolean), Cond.fieldLink RX5 283 "LaneNets" "KIND_ABOVE" "[I", Cond.methodLink RL 40 yX6_as, Cond.instanceMethod yX6_as, Cond.selects RX6 yX6_as yX6_as, Cond.code yX6_as cX6_as 4 (some .int), Cond.methodLink RX6 114 yX6_above, Cond.static yX6_above, Cond.code yX6_above cX6_above 1 (some .int), Cond.methodLink RL 41 yX5_of, Cond.instanceMethod yX5_of, Cond.selects RX5 yX5_of yX5_of, Cond.code yX5_of cX5_of 3 (some .int), Cond.methodLink RX5 118 yX5_lastRound, Cond.instanceMethod yX5_lastRound, Cond.selects RX5 yX5_lastRound yX5_lastRound, Cond.code yX5_lastRound cX5_lastRound 7 (some .int), Cond.methodLink RX5 226 Lib.Math.max.name, Cond.static Lib.Math.max.name, Cond.code Lib.Math.max.name Lib.Math.max.code 2 (some .int), Cond.methodLink RL 44 yX6_of, Cond.instanceMethod yX6_of, Cond.selects RX6 yX6_of yX6_of, Cond.code yX6_of cX6_of 3 (some .int)]
def wsL_law_r12 : List Cond := [Cond.methodLink RX6 117 yX6_roundOf, Cond.instanceMethod yX6_roundOf, Cond.selects RX6 yX6_roundOf yX6_roundOf, Cond.code yX6_roundOf cX6_roundOf 6 (some .int), Cond.methodLink RL 45 yX5_rounds, Cond.instanceMethod yX5_rounds, Cond.selects RX5 yX5_rounds yX5_rounds, Cond.code yX5_rounds cX5_rounds 1 (some .int), Cond.methodLink RL 49 yX6_rounds, Cond.instanceMethod yX6_rounds, Cond.selects RX6 yX6_rounds yX6_rounds, Cond.code yX6_rounds cX6_rounds 4 (some .int), Cond.methodLink RL 50 yX5_crate, Cond.instanceMethod yX5_crate, Cond.selects RX5 yX5_crate yX5_crate, Cond.code yX5_crate cX5_crate 5 (some .int), Cond.methodLink RX5 121 yX5_isCrate, Cond.static yX5_isCrate, Cond.code yX5_isCrate cX5_isCrate 1 (some .boolean), Cond.methodLink RX5 124 yX1_renew, Cond.instanceMethod yX1_renew, Cond.selects RX1 yX1_renew yX1_renew, Cond.code yX1_renew cX1_renew 4 none, Cond.methodLink RL 53 yX6_crate]
def wsL_law_r13 : List Cond := [Cond.instanceMethod yX6_crate, Cond.selects RX6 yX6_crate yX6_crate, Cond.code yX6_crate cX6_crate 5 (some .int), Cond.methodLink RX6 120 yX6_isCrate, Cond.static yX6_isCrate, Cond.code yX6_isCrate cX6_isCrate 1 (some .boolean), Cond.methodLink RL 56 yX5_put, Cond.instanceMethod yX5_put, Cond.selects RX5 yX5_put yX5_put, Cond.code yX5_put cX5_put 6 (some .int), Cond.methodLink RX5 128 yX5_findingOfLoad, Cond.instanceMethod yX5_findingOfLoad, Cond.selects RX5 yX5_findingOfLoad yX5_findingOfLoad, Cond.code yX5_findingOfLoad cX5_findingOfLoad 4 (some .int), Cond.fieldLink RX5 159 "LaneNets$Crate" "count" "I", Cond.methodLink RX5 156 yX5_findingOfCrate, Cond.instanceMethod yX5_findingOfCrate, Cond.selects RX5 yX5_findingOfCrate yX5_findingOfCrate, Cond.code yX5_findingOfCrate cX5_findingOfCrate 2 (some .int), Cond.methodLink RX5 141 yX1_isMissing, Cond.instanceMethod yX1_isMissing, Cond.selects RX1 yX1_isMissing yX1_isMissing, Cond.code yX1_isMissing cX1_isMissing 1 (some .boolean), Cond.methodLink RX5 132 yX1_write]
def wsL_law_r14 : List Cond := [Cond.instanceMethod yX1_write, Cond.selects RX1 yX1_write yX1_write, Cond.code yX1_write cX1_write 4 none, Cond.methodLink RX1 22 yX1_fitted, Cond.static yX1_fitted, Cond.code yX1_fitted cX1_fitted 3 (some .long), Cond.constant RX1 26 (2147483647), Cond.constant RX1 27 (2139095040), Cond.constantLong RX1 28 (2143289344), Cond.constantLong RX1 30 (9223372036854775807), Cond.constantLong RX1 32 (9218868437227405312), Cond.constantLong RX1 34 (9221120237041090560), Cond.methodLink RL 60 yX6_put, Cond.instanceMethod yX6_put, Cond.selects RX6 yX6_put yX6_put, Cond.code yX6_put cX6_put 6 (some .int), Cond.methodLink RX6 135 yX6_lacks, Cond.instanceMethod yX6_lacks, Cond.selects RX6 yX6_lacks yX6_lacks, Cond.code yX6_lacks cX6_lacks 3 (some .int), Cond.methodLink RX6 139 yX6_narrow, Cond.static yX6_narrow, Cond.code yX6_narrow cX6_narrow 3 (some .long), Cond.constantLong RX6 123 (65535)]
def wsL_law_r15 : List Cond := [Cond.constant RX6 125 (2147483647), Cond.constant RX6 126 (2139095040), Cond.constantLong RX6 127 (2143289344), Cond.constantLong RX6 129 (9223372036854775807), Cond.constantLong RX6 131 (9218868437227405312), Cond.constantLong RX6 133 (9221120237041090560), Cond.methodLink RL 61 yX5_load, Cond.instanceMethod yX5_load, Cond.selects RX5 yX5_load yX5_load, Cond.code yX5_load cX5_load 4 (some .long), Cond.constantLong RX5 135 (-9223372036854775808), Cond.fieldLink RX5 137 "LaneNets$Crate" "loads" "[J", Cond.methodLink RL 65 yX6_load, Cond.instanceMethod yX6_load, Cond.selects RX6 yX6_load yX6_load, Cond.code yX6_load cX6_load 4 (some .long), Cond.constantLong RX6 143 (-9223372036854775808), Cond.methodLink RL 66 yX5_copy, Cond.instanceMethod yX5_copy, Cond.selects RX5 yX5_copy yX5_copy, Cond.code yX5_copy cX5_copy 8 (some .int), Cond.fieldLink RX5 145 "LaneNets$Crate" "kind" "I", Cond.methodLink RX5 150 arraycopyName, Cond.methodLink RX5 147 yX1_hasPart]
def wsL_law_r16 : List Cond := [Cond.instanceMethod yX1_hasPart, Cond.selects RX1 yX1_hasPart yX1_hasPart, Cond.code yX1_hasPart cX1_hasPart 3 (some .boolean), Cond.methodLink RL 70 yX6_copy, Cond.instanceMethod yX6_copy, Cond.selects RX6 yX6_copy yX6_copy, Cond.code yX6_copy cX6_copy 7 (some .int), Cond.methodLink RL 71 yX5_run, Cond.instanceMethod yX5_run, Cond.selects RX5 yX5_run yX5_run, Cond.code yX5_run cX5_run 6 (some .int), Cond.fieldLink RX5 160 "LaneNets$Net" "lanes" "I", Cond.methodLink RX5 163 yX3_actingKind, Cond.instanceMethod yX3_actingKind, Cond.selects RX3 yX3_actingKind yX3_actingKind, Cond.code yX3_actingKind cX3_actingKind 3 (some .int), Cond.methodLink RX3 22 yX3_kind, Cond.methodLink RX3 26 yX3_switchOf, Cond.methodLink RX5 166 yX1_mustChange, Cond.instanceMethod yX1_mustChange, Cond.selects RX1 yX1_mustChange yX1_mustChange, Cond.code yX1_mustChange cX1_mustChange 4 (some .boolean), Cond.methodLink RX1 46 yX1_compare, Cond.instanceMethod yX1_compare]
def wsL_law_r17 : List Cond := [Cond.selects RX1 yX1_compare yX1_compare, Cond.code yX1_compare cX1_compare 3 (some .int), Cond.methodLink RX1 36 yX1_rank, Cond.instanceMethod yX1_rank, Cond.selects RX1 yX1_rank yX1_rank, Cond.code yX1_rank cX1_rank 4 (some .long), Cond.methodLink RX1 40 yJ13_compare_74951, Cond.static yJ13_compare_74951, Cond.initialized RJ13, Cond.code yJ13_compare_74951 cJ13_compare_74951 4 (some .int), Cond.methodLink RX5 170 yX1_exchange, Cond.instanceMethod yX1_exchange, Cond.selects RX1 yX1_exchange yX1_exchange, Cond.code yX1_exchange cX1_exchange 5 none, Cond.methodLink RL 74 yX6_run, Cond.instanceMethod yX6_run, Cond.selects RX6 yX6_run yX6_run, Cond.code yX6_run cX6_run 6 (some .int), Cond.methodLink RX6 151 yX6_against, Cond.instanceMethod yX6_against, Cond.selects RX6 yX6_against yX6_against, Cond.code yX6_against cX6_against 8 (some .int), Cond.methodLink RX6 147 yX6_key, Cond.instanceMethod yX6_key]
def wsL_law_r18 : List Cond := [Cond.selects RX6 yX6_key yX6_key, Cond.code yX6_key cX6_key 5 (some .long), Cond.constantLong RX6 145 (2147483647), Cond.methodLink RX6 155 yX6_changes, Cond.instanceMethod yX6_changes, Cond.selects RX6 yX6_changes yX6_changes, Cond.code yX6_changes cX6_changes 3 (some .boolean), Cond.methodLink RL 75 yX5_rises, Cond.instanceMethod yX5_rises, Cond.selects RX5 yX5_rises yX5_rises, Cond.code yX5_rises cX5_rises 5 (some .int), Cond.methodLink RX5 173 yX1_compare, Cond.methodLink RL 78 yX6_rises, Cond.instanceMethod yX6_rises, Cond.selects RX6 yX6_rises yX6_rises, Cond.code yX6_rises cX6_rises 3 (some .int), Cond.methodLink RL 79 yX5_order, Cond.instanceMethod yX5_order, Cond.selects RX5 yX5_order yX5_order, Cond.code yX5_order cX5_order 6 (some .int), Cond.methodLink RL 82 yX6_order, Cond.instanceMethod yX6_order, Cond.selects RX6 yX6_order yX6_order, Cond.code yX6_order cX6_order 5 (some .int)]
def wsL_law_r19 : List Cond := [Cond.methodLink RL 83 yX5_out, Cond.instanceMethod yX5_out, Cond.selects RX5 yX5_out yX5_out, Cond.code yX5_out cX5_out 2 (some .int), Cond.methodLink RX5 176 yX4_start, Cond.instanceMethod yX4_start, Cond.selects RX4 yX4_start yX4_start, Cond.code yX4_start cX4_start 4 none, Cond.constantLong RX4 25 (-1), Cond.methodLink RX4 27 yX4_firstColumn, Cond.static yX4_firstColumn, Cond.code yX4_firstColumn cX4_firstColumn 2 (some .long), Cond.fieldLink RX4 31 "LaneNets$Rows" "FIRST_COLUMNS" "[J", Cond.methodLink RX5 179 yX4_pass, Cond.instanceMethod yX4_pass, Cond.selects RX4 yX4_pass yX4_pass, Cond.code yX4_pass cX4_pass 4 none, Cond.fieldLink RX4 38 "LaneNets$Net" "count" "I", Cond.methodLink RX4 44 yX3_actingKind, Cond.methodLink RX4 48 yX3_low, Cond.methodLink RX4 51 yX3_high, Cond.methodLink RX4 54 yX4_step, Cond.instanceMethod yX4_step, Cond.selects RX4 yX4_step yX4_step]
def wsL_law_r20 : List Cond := [Cond.code yX4_step cX4_step 6 none, Cond.methodLink RX4 34 yX4_changing, Cond.instanceMethod yX4_changing, Cond.selects RX4 yX4_changing yX4_changing, Cond.code yX4_changing cX4_changing 4 (some .long), Cond.methodLink RX5 183 yX4_numberOf, Cond.instanceMethod yX4_numberOf, Cond.selects RX4 yX4_numberOf yX4_numberOf, Cond.code yX4_numberOf cX4_numberOf 5 (some .int), Cond.methodLink RL 86 yX6_out, Cond.instanceMethod yX6_out, Cond.selects RX6 yX6_out yX6_out, Cond.code yX6_out cX6_out 2 (some .int), Cond.methodLink RX6 162 yX6_rows, Cond.instanceMethod yX6_rows, Cond.selects RX6 yX6_rows yX6_rows, Cond.code yX6_rows cX6_rows 1 (some .int), Cond.methodLink RX6 166 yX6_goes, Cond.instanceMethod yX6_goes, Cond.selects RX6 yX6_goes yX6_goes, Cond.code yX6_goes cX6_goes 7 (some .int), Cond.methodLink RX6 159 yX6_at, Cond.static yX6_at, Cond.code yX6_at cX6_at 2 (some .int)]
def wsL_law_r21 : List Cond := [Cond.methodLink RL 87 yX5_sorts, Cond.instanceMethod yX5_sorts, Cond.selects RX5 yX5_sorts yX5_sorts, Cond.code yX5_sorts cX5_sorts 1 (some .int), Cond.methodLink RX5 186 yX5_leastFailing, Cond.instanceMethod yX5_leastFailing, Cond.selects RX5 yX5_leastFailing yX5_leastFailing, Cond.code yX5_leastFailing cX5_leastFailing 5 (some .int), Cond.methodLink RX5 192 yX4_blocks, Cond.static yX4_blocks, Cond.code yX4_blocks cX4_blocks 1 (some .int), Cond.methodLink RX5 195 yX5_failingRows, Cond.instanceMethod yX5_failingRows, Cond.selects RX5 yX5_failingRows yX5_failingRows, Cond.code yX5_failingRows cX5_failingRows 3 (some .long), Cond.methodLink RX5 205 yX4_falling, Cond.instanceMethod yX4_falling, Cond.selects RX4 yX4_falling yX4_falling, Cond.code yX4_falling cX4_falling 6 (some .long), Cond.methodLink RX5 264 yX4_leastOf, Cond.static yX4_leastOf, Cond.code yX4_leastOf cX4_leastOf 3 (some .int), Cond.methodLink RX4 19 yJ13_bitCount_95d88, Cond.static yJ13_bitCount_95d88]
def wsL_law_r22 : List Cond := [Cond.code yJ13_bitCount_95d88 cJ13_bitCount_95d88 2 (some .int), Cond.constantLong RJ13 314 (6148914691236517205), Cond.constantLong RJ13 316 (3689348814741910323), Cond.constantLong RJ13 318 (1085102592571150095), Cond.methodLink RL 90 yX6_sorts, Cond.instanceMethod yX6_sorts, Cond.selects RX6 yX6_sorts yX6_sorts, Cond.code yX6_sorts cX6_sorts 1 (some .int), Cond.methodLink RX6 172 yX6_failing, Cond.instanceMethod yX6_failing, Cond.selects RX6 yX6_failing yX6_failing, Cond.code yX6_failing cX6_failing 3 (some .int), Cond.methodLink RX6 169 yX6_isRising, Cond.instanceMethod yX6_isRising, Cond.selects RX6 yX6_isRising yX6_isRising, Cond.code yX6_isRising cX6_isRising 3 (some .boolean), Cond.methodLink RL 91 yX5_fails, Cond.instanceMethod yX5_fails, Cond.selects RX5 yX5_fails yX5_fails, Cond.code yX5_fails cX5_fails 4 (some .int), Cond.methodLink RX5 189 yX5_toldOrFinding, Cond.instanceMethod yX5_toldOrFinding, Cond.selects RX5 yX5_toldOrFinding yX5_toldOrFinding, Cond.code yX5_toldOrFinding cX5_toldOrFinding 2 (some .int)]
def wsL_law_r23 : List Cond := [Cond.methodLink RX5 199 yJ13_bitCount_95d88, Cond.methodLink RL 95 yX6_fails, Cond.instanceMethod yX6_fails, Cond.selects RX6 yX6_fails yX6_fails, Cond.code yX6_fails cX6_fails 4 (some .int), Cond.methodLink RL 96 yX5_merges, Cond.instanceMethod yX5_merges, Cond.selects RX5 yX5_merges yX5_merges, Cond.code yX5_merges cX5_merges 5 (some .int), Cond.constantLong RX5 208 (-1), Cond.methodLink RL 99 yX6_merges, Cond.instanceMethod yX6_merges, Cond.selects RX6 yX6_merges yX6_merges, Cond.code yX6_merges cX6_merges 5 (some .int), Cond.methodLink RL 100 yX5_idle, Cond.instanceMethod yX5_idle, Cond.selects RX5 yX5_idle yX5_idle, Cond.code yX5_idle cX5_idle 2 (some .int), Cond.methodLink RX5 210 yX5_busyComparers, Cond.instanceMethod yX5_busyComparers, Cond.selects RX5 yX5_busyComparers yX5_busyComparers, Cond.code yX5_busyComparers cX5_busyComparers 6 (some .long), Cond.methodLink RX5 286 yX4_changing, Cond.methodLink RX5 271 yX4_step]
def wsL_law_r24 : List Cond := [Cond.methodLink RX5 214 yX5_isIn, Cond.static yX5_isIn, Cond.code yX5_isIn cX5_isIn 3 (some .boolean), Cond.methodLink RL 103 yX6_idle, Cond.instanceMethod yX6_idle, Cond.selects RX6 yX6_idle yX6_idle, Cond.code yX6_idle cX6_idle 2 (some .int), Cond.methodLink RX6 175 yX6_isIdle, Cond.instanceMethod yX6_isIdle, Cond.selects RX6 yX6_isIdle yX6_isIdle, Cond.code yX6_isIdle cX6_isIdle 4 (some .boolean), Cond.methodLink RL 104 yX5_drop, Cond.instanceMethod yX5_drop, Cond.selects RX5 yX5_drop yX5_drop, Cond.code yX5_drop cX5_drop 5 (some .int), Cond.fieldLink RX5 218 "LaneNets$Net" "comparers" "[I", Cond.methodLink RL 107 yX6_drop, Cond.instanceMethod yX6_drop, Cond.selects RX6 yX6_drop yX6_drop, Cond.code yX6_drop cX6_drop 3 (some .int), Cond.methodLink RL 108 yX5_turn, Cond.instanceMethod yX5_turn, Cond.selects RX5 yX5_turn yX5_turn, Cond.code yX5_turn cX5_turn 8 (some .int)]
def wsL_law_r25 : List Cond := [Cond.methodLink RX5 221 Lib.Math.min.name, Cond.methodLink RX5 229 yX5_changesPlaces, Cond.static yX5_changesPlaces, Cond.code yX5_changesPlaces cX5_changesPlaces 3 (some .boolean), Cond.methodLink RL 111 yX6_turn, Cond.instanceMethod yX6_turn, Cond.selects RX6 yX6_turn yX6_turn, Cond.code yX6_turn cX6_turn 8 (some .int), Cond.methodLink RL 112 yX5_mirror, Cond.instanceMethod yX5_mirror, Cond.selects RX5 yX5_mirror yX5_mirror, Cond.code yX5_mirror cX5_mirror 3 (some .int), Cond.methodLink RX5 232 yX3_move, Cond.instanceMethod yX3_move, Cond.selects RX3 yX3_move yX3_move, Cond.code yX3_move cX3_move 5 none, Cond.methodLink RL 115 yX6_mirror, Cond.instanceMethod yX6_mirror, Cond.selects RX6 yX6_mirror yX6_mirror, Cond.code yX6_mirror cX6_mirror 3 (some .int), Cond.methodLink RL 116 yX5_missing, Cond.instanceMethod yX5_missing, Cond.selects RX5 yX5_missing yX5_missing, Cond.code yX5_missing cX5_missing 1 (some .int)]
def wsL_law_r26 : List Cond := [Cond.fieldLink RX5 238 "LaneNets$Completion" "fewest" "I", Cond.methodLink RX5 235 yX5_findCompletion, Cond.instanceMethod yX5_findCompletion, Cond.selects RX5 yX5_findCompletion yX5_findCompletion, Cond.code yX5_findCompletion cX5_findCompletion 1 none, Cond.methodLink RX5 290 yX4_packed, Cond.instanceMethod yX4_packed, Cond.selects RX4 yX4_packed yX4_packed, Cond.code yX4_packed cX4_packed 5 (some .long), Cond.methodLink RX5 294 yX0_find, Cond.instanceMethod yX0_find, Cond.selects RX0 yX0_find yX0_find, Cond.code yX0_find cX0_find 6 none, Cond.methodLink RX0 26 yX0_completes, Cond.static yX0_completes, Cond.code yX0_completes cX0_completes 10 (some .boolean), Cond.methodLink RX0 30 yX0_areRising, Cond.static yX0_areRising, Cond.code yX0_areRising cX0_areRising 4 (some .boolean), Cond.constantLong RX0 44 (-1), Cond.methodLink RX0 40 yX0_column, Cond.static yX0_column, Cond.code yX0_column cX0_column 3 (some .long), Cond.constantLong RX0 38 (65535)]
def wsL_law_r27 : List Cond := [Cond.methodLink RX0 34 yX0_compared, Cond.static yX0_compared, Cond.code yX0_compared cX0_compared 6 (some .long), Cond.methodLink RL 119 yX6_missing, Cond.instanceMethod yX6_missing, Cond.selects RX6 yX6_missing yX6_missing, Cond.code yX6_missing cX6_missing 1 (some .int), Cond.methodLink RX6 184 yX6_shortest, Cond.instanceMethod yX6_shortest, Cond.selects RX6 yX6_shortest yX6_shortest, Cond.code yX6_shortest cX6_shortest 5 (some .int), Cond.methodLink RX6 181 yX6_does, Cond.instanceMethod yX6_does, Cond.selects RX6 yX6_does yX6_does, Cond.code yX6_does cX6_does 6 (some .boolean), Cond.methodLink RX6 178 yX6_pair, Cond.instanceMethod yX6_pair, Cond.selects RX6 yX6_pair yX6_pair, Cond.code yX6_pair cX6_pair 5 (some .int), Cond.methodLink RL 120 yX5_next, Cond.instanceMethod yX5_next, Cond.selects RX5 yX5_next yX5_next, Cond.code yX5_next cX5_next 2 (some .int), Cond.fieldLink RX5 241 "LaneNets$Completion" "pairs" "[I"]
def wsL_law_r28 : List Cond := [Cond.methodLink RL 123 yX6_next, Cond.instanceMethod yX6_next, Cond.selects RX6 yX6_next yX6_next, Cond.code yX6_next cX6_next 3 (some .int), Cond.methodLink RL 124 yX5_bears, Cond.instanceMethod yX5_bears, Cond.selects RX5 yX5_bears yX5_bears, Cond.code yX5_bears cX5_bears 2 (some .int), Cond.methodLink RX5 244 yX5_sorts, Cond.methodLink RL 127 yX6_bears, Cond.instanceMethod yX6_bears, Cond.selects RX6 yX6_bears yX6_bears, Cond.code yX6_bears cX6_bears 2 (some .int), Cond.methodLink RX6 187 yX6_sorts, Cond.methodLink RL 128 yX5_weak, Cond.instanceMethod yX5_weak, Cond.selects RX5 yX5_weak yX5_weak, Cond.code yX5_weak cX5_weak 2 (some .int), Cond.methodLink RL 131 yX6_weak, Cond.instanceMethod yX6_weak, Cond.selects RX6 yX6_weak yX6_weak, Cond.code yX6_weak cX6_weak 3 (some .int), Cond.methodLink RL 132 yX5_keep, Cond.instanceMethod yX5_keep]
def wsL_law_r29 : List Cond := [Cond.selects RX5 yX5_keep yX5_keep, Cond.code yX5_keep cX5_keep 2 (some .int), Cond.methodLink RX5 248 yX5_isSlot, Cond.static yX5_isSlot, Cond.code yX5_isSlot cX5_isSlot 1 (some .boolean), Cond.methodLink RX5 251 yX3_become, Cond.methodLink RL 135 yX6_keep, Cond.instanceMethod yX6_keep, Cond.selects RX6 yX6_keep yX6_keep, Cond.code yX6_keep cX6_keep 2 (some .int), Cond.methodLink RX6 190 yX6_isSlot, Cond.static yX6_isSlot, Cond.code yX6_isSlot cX6_isSlot 1 (some .boolean), Cond.methodLink RL 136 yX5_bring, Cond.instanceMethod yX5_bring, Cond.selects RX5 yX5_bring yX5_bring, Cond.code yX5_bring cX5_bring 3 (some .int), Cond.methodLink RX5 254 yX5_findingOfSlot, Cond.instanceMethod yX5_findingOfSlot, Cond.selects RX5 yX5_findingOfSlot yX5_findingOfSlot, Cond.code yX5_findingOfSlot cX5_findingOfSlot 2 (some .int), Cond.methodLink RX5 280 yX3_isNone, Cond.instanceMethod yX3_isNone, Cond.selects RX3 yX3_isNone yX3_isNone]
def wsL_law_r30 : List Cond := [Cond.code yX3_isNone cX3_isNone 1 (some .boolean), Cond.methodLink RL 139 yX6_bring, Cond.instanceMethod yX6_bring, Cond.selects RX6 yX6_bring yX6_bring, Cond.code yX6_bring cX6_bring 2 (some .int), Cond.methodLink RX6 97 yX6_restore, Cond.instanceMethod yX6_restore, Cond.selects RX6 yX6_restore yX6_restore, Cond.code yX6_restore cX6_restore 3 none, Cond.methodLink RL 140 yX5_follow, Cond.instanceMethod yX5_follow, Cond.selects RX5 yX5_follow yX5_follow, Cond.code yX5_follow cX5_follow 4 (some .int), Cond.methodLink RX5 257 yX5_findingOfFit, Cond.instanceMethod yX5_findingOfFit, Cond.selects RX5 yX5_findingOfFit yX5_findingOfFit, Cond.code yX5_findingOfFit cX5_findingOfFit 3 (some .int), Cond.methodLink RL 143 yX6_follow, Cond.instanceMethod yX6_follow, Cond.selects RX6 yX6_follow yX6_follow, Cond.code yX6_follow cX6_follow 4 (some .int), Cond.methodLink RL 144 yX5_unlike, Cond.instanceMethod yX5_unlike, Cond.selects RX5 yX5_unlike yX5_unlike]
def wsL_law_r31 : List Cond := [Cond.code yX5_unlike cX5_unlike 6 (some .int), Cond.methodLink RX5 260 yX4_differing, Cond.instanceMethod yX4_differing, Cond.selects RX4 yX4_differing yX4_differing, Cond.code yX4_differing cX4_differing 6 (some .long), Cond.methodLink RL 147 yX6_unlike, Cond.instanceMethod yX6_unlike, Cond.selects RX6 yX6_unlike yX6_unlike, Cond.code yX6_unlike cX6_unlike 5 (some .int), Cond.methodLink RL 148 yX5_tell, Cond.instanceMethod yX5_tell, Cond.selects RX5 yX5_tell yX5_tell, Cond.code yX5_tell cX5_tell 2 (some .int), Cond.methodLink RL 151 yX6_tell, Cond.instanceMethod yX6_tell, Cond.selects RX6 yX6_tell yX6_tell, Cond.code yX6_tell cX6_tell 2 (some .int), Cond.fieldLink RX6 193 "LaneNetsModel" "waiting" "I", Cond.methodLink RL 152 yX5_would, Cond.instanceMethod yX5_would, Cond.selects RX5 yX5_would yX5_would, Cond.code yX5_would cX5_would 4 (some .int), Cond.methodLink RX5 268 yX5_areLanePairs, Cond.instanceMethod yX5_areLanePairs]
def wsL_law_r32 : List Cond := [Cond.selects RX5 yX5_areLanePairs yX5_areLanePairs, Cond.code yX5_areLanePairs cX5_areLanePairs 5 (some .boolean), Cond.methodLink RL 155 yX6_would, Cond.instanceMethod yX6_would, Cond.selects RX6 yX6_would yX6_would, Cond.code yX6_would cX6_would 5 (some .int), Cond.methodLink RL 156 yX5_undo, Cond.instanceMethod yX5_undo, Cond.selects RX5 yX5_undo yX5_undo, Cond.code yX5_undo cX5_undo 1 (some .int), Cond.fieldLink RX5 274 "LaneNets$History" "held" "I", Cond.methodLink RX5 277 yX2_giveBack, Cond.instanceMethod yX2_giveBack, Cond.selects RX2 yX2_giveBack yX2_giveBack, Cond.code yX2_giveBack cX2_giveBack 2 none, Cond.methodLink RL 159 yX6_undo, Cond.instanceMethod yX6_undo, Cond.selects RX6 yX6_undo yX6_undo, Cond.code yX6_undo cX6_undo 1 (some .int), Cond.methodLink RL 160 yX5_told, Cond.instanceMethod yX5_told, Cond.selects RX5 yX5_told yX5_told, Cond.code yX5_told cX5_told 2 (some .int), Cond.methodLink RL 163 yX6_told]
def wsL_law_r33 : List Cond := [Cond.instanceMethod yX6_told, Cond.selects RX6 yX6_told yX6_told, Cond.code yX6_told cX6_told 2 (some .int)]
def wsL_law : List Cond := (wsL_law_r1 ++ (wsL_law_r2 ++ (wsL_law_r3 ++ (wsL_law_r4 ++ (wsL_law_r5 ++ (wsL_law_r6 ++ (wsL_law_r7 ++ (wsL_law_r8 ++ (wsL_law_r9 ++ (wsL_law_r10 ++ (wsL_law_r11 ++ (wsL_law_r12 ++ (wsL_law_r13 ++ (wsL_law_r14 ++ (wsL_law_r15 ++ (wsL_law_r16 ++ (wsL_law_r17 ++ (wsL_law_r18 ++ (wsL_law_r19 ++ (wsL_law_r20 ++ (wsL_law_r21 ++ (wsL_law_r22 ++ (wsL_law_r23 ++ (wsL_law_r24 ++ (wsL_law_r25 ++ (wsL_law_r26 ++ (wsL_law_r27 ++ (wsL_law_r28 ++ (wsL_law_r29 ++ (wsL_law_r30 ++ (wsL_law_r31 ++ (wsL_law_r32 ++ wsL_law_r33)))))))))))))))))))))))))))))))) ++ wsX50 ++ wsX60 ++ wsX30 ++ wsX20 ++ wsX40 ++ wsX00 ++ wsX10 ++ ([] : List Cond)
theorem inlX0 : ∀ w ∈ wsX00, w ∈ wsL_law := fun _ h => List.mem_append_left _ (List.mem_append_left _ (List.mem_append_right _ h))
theorem inlX1 : ∀ w ∈ wsX10, w ∈ wsL_law := fun _ h => List.mem_append_left _ (List.mem_append_right _ h)
theorem inlX2 : ∀ w ∈ wsX20, w ∈ wsL_law := fun _ h => List.mem_append_left _ (List.mem_append_left _ (List.mem_append_left _ (List.mem_append_left _ (List.mem_append_right _ h))))
theorem inlX3 : ∀ w ∈ wsX30, w ∈ wsL_law := fun _ h => List.mem_append_left _ (List.mem_append_left _ (List.mem_append_left _ (List.mem_append_left _ (List.mem_append_left _ (List.mem_append_right _ h)))))
theorem inlX4 : ∀ w ∈ wsX40, w ∈ wsL_law := fun _ h => List.mem_append_left _ (List.mem_append_left _ (List.mem_append_left _ (List.mem_append_right _ h)))
theorem inlX5 : ∀ w ∈ wsX50, w ∈ wsL_law := fun _ h => List.mem_append_left _ (List.mem_append_left _ (List.mem_append_left _ (List.mem_append_left _ (List.mem_append_left _ (List.mem_append_left _ (List.mem_append_left _ (List.mem_append_right _ h)))))))
theorem inlX6 : ∀ w ∈ wsX60, w ∈ wsL_law := fun _ h => List.mem_append_left _ (List.mem_append_left _ (List.mem_append_left _ (List.mem_append_left _ (List.mem_append_left _ (List.mem_append_left _ (List.mem_append_right _ h))))))
abbrev vwCl : List vw_C := [(RX0, TX0, 4), (RX1, TX1, 3), (RX2, TX2, 3), (RX3, TX3, 3), (RX4, TX4, 2), (RX5, TX5, 11), (RX6, TX6, 25)]
end
section
theorem dX0_init_0 : decode cX0_init 0 = .ok (.aload_n 0, 1) := by decide +kernel
theorem dX0_init_1 : decode cX0_init 1 = .ok (.invokespecial 3, 3) := by decide +kernel
theorem dX0_init_4 : decode cX0_init 4 = .ok (.aload_n 0, 1) := by decide +kernel
theorem dX0_init_5 : decode cX0_init 5 = .ok (.iconst 5, 1) := by decide +kernel
theorem dX0_init_6 : decode cX0_init 6 = .ok (.newarray .int, 2) := by decide +kernel
theorem dX0_init_8 : decode cX0_init 8 = .ok (.putfield 9, 3) := by decide +kernel
theorem dX0_init_11 : decode cX0_init 11 = .ok (.aload_n 0, 1) := by decide +kernel
theorem dX0_init_12 : decode cX0_init 12 = .ok (.iconst 0, 1) := by decide +kernel
theorem dX0_init_13 : decode cX0_init 13 = .ok (.putfield 15, 3) := by decide +kernel
theorem dX0_init_16 : decode cX0_init 16 = .ok (.aload_n 0, 1) := by decide +kernel
theorem dX0_init_17 : decode cX0_init 17 = .ok (.iconst 0, 1) := by decide +kernel
theorem dX0_init_18 : decode cX0_init 18 = .ok (.putfield 19, 3) := by decide +kernel
theorem dX0_init_21 : decode cX0_init 21 = .ok (.aload_n 0, 1) := by decide +kernel
theorem dX0_init_22 : decode cX0_init 22 = .ok (.lconst 0, 1) := by decide +kernel
theorem dX0_init_23 : decode cX0_init 23 = .ok (.putfield 22, 3) := by decide +kernel
theorem dX0_init_26 : decode cX0_init 26 = .ok (.return_, 1) := by decide +kernel
set_option maxRecDepth 20000 in
theorem ggX0_find_X0_completes : GoodIn wsX0_find wsX0_completes := goodIn_r _ [8, 9, 10, 7, 11, 12, 13, 14, 15, 16, 17, 18, 19, 5, 6] (by decide +kernel) (by decide +kernel)
set_option maxRecDepth 20000 in
theorem gX0_find_X0_completes : GoodIn wsX0_find (va_wsS RX0 26 yX0_completes wsX0_completes) := goodIn_app (goodIn_of _ (by decide +kernel)) ggX0_find_X0_completes
theorem dX0_find_0 : decode cX0_find 0 = .ok (.iload_n 1, 1) := by decide +kernel
theorem dX0_find_1 : decode cX0_find 1 = .ok (.aload_n 0, 1) := by decide +kernel
theorem dX0_find_2 : decode cX0_find 2 = .ok (.getfield 19, 3) := by decide +kernel
theorem dX0_find_5 : decode cX0_find 5 = .ok (.if_icmp .ne 13, 3) := by decide +kernel
theorem dX0_find_8 : decode cX0_find 8 = .ok (.lload_n 2, 1) := by decide +kernel
theorem dX0_find_9 : decode cX0_find 9 = .ok (.aload_n 0, 1) := by decide +kernel
theorem dX0_find_10 : decode cX0_find 10 = .ok (.getfield 22, 3) := by decide +kernel
theorem dX0_find_13 : decode cX0_find 13 = .ok (.lcmp, 1) := by decide +kernel
theorem dX0_find_14 : decode cX0_find 14 = .ok (.ifCond .ne 4, 3) := by decide +kernel
theorem dX0_find_17 : decode cX0_find 17 = .ok (.return_, 1) := by decide +kernel
theorem dX0_find_18 : decode cX0_find 18 = .ok (.aload_n 0, 1) := by decide +kernel
theorem dX0_find_19 : decode cX0_find 19 = .ok (.iload_n 1, 1) := by decide +kernel
theorem dX0_find_20 : decode cX0_find 20 = .ok (.putfield 19, 3) := by decide +kernel
theorem dX0_find_23 : decode cX0_find 23 = .ok (.aload_n 0, 1) := by decide +kernel
theorem dX0_find_24 : decode cX0_find 24 = .ok (.lload_n 2, 1) := by decide +kernel
theorem dX0_find_25 : decode cX0_find 25 = .ok (.putfield 22, 3) := by decide +kernel
theorem dX0_find_28 : decode cX0_find 28 = .ok (.iconst 0, 1) := by decide +kernel
theorem dX0_find_29 : decode cX0_find 29 = .ok (.istore 4, 2) := by decide +kernel
theorem dX0_find_31 : decode cX0_find 31 = .ok (.iconst 0, 1) := by decide +kernel
theorem dX0_find_32 : decode cX0_find 32 = .ok (.istore 5, 2) := by decide +kernel
theorem dX0_find_34 : decode cX0_find 34 = .ok (.iload 5, 2) := by decide +kernel
theorem dX0_find_36 : decode cX0_find 36 = .ok (.iconst 5, 1) := by decide +kernel
theorem dX0_find_37 : decode cX0_find 37 = .ok (.if_icmp .gt 34, 3) := by decide +kernel
theorem dX0_find_40 : decode cX0_find 40 = .ok (.iload 4, 2) := by decide +kernel
theorem dX0_find_42 : decode cX0_find 42 = .ok (.ifCond .ne 29, 3) := by decide +kernel
theorem dX0_find_45 : decode cX0_find 45 = .ok (.lload_n 2, 1) := by decide +kernel
theorem dX0_find_46 : decode cX0_find 46 = .ok (.iload_n 1, 1) := by decide +kernel
theorem dX0_find_47 : decode cX0_find 47 = .ok (.iconst 0, 1) := by decide +kernel
theorem dX0_find_48 : decode cX0_find 48 = .ok (.iload 5, 2) := by decide +kernel
theorem dX0_find_50 : decode cX0_find 50 = .ok (.aload_n 0, 1) := by decide +kernel
theorem dX0_find_51 : decode cX0_find 51 = .ok (.getfield 9, 3) := by decide +kernel
theorem dX0_find_54 : decode cX0_find 54 = .ok (.invokestatic 26, 3) := by decide +kernel
theorem dX0_find_57 : decode cX0_find 57 = .ok (.istore 4, 2) := by decide +kernel
theorem dX0_find_59 : decode cX0_find 59 = .ok (.aload_n 0, 1) := by decide +kernel
theorem dX0_find_60 : decode cX0_find 60 = .ok (.iload 5, 2) := by decide +kernel
theorem dX0_find_62 : decode cX0_find 62 = .ok (.putfield 15, 3) := by decide +kernel
theorem dX0_find_65 : decode cX0_find 65 = .ok (.iinc 5 1, 3) := by decide +kernel
theorem dX0_find_68 : decode cX0_find 68 = .ok (.goto (-34), 3) := by decide +kernel
theorem dX0_find_71 : decode cX0_find 71 = .ok (.return_, 1) := by decide +kernel
set_option maxRecDepth 20000 in
theorem ggX0_completes_X0_areRising : GoodIn wsX0_completes wsX0_areRising := goodIn_r _ [4, 5, 6, 7, 3, 8, 9] (by decide +kernel) (by decide +kernel)
set_option maxRecDepth 20000 in
theorem gX0_completes_X0_areRising : GoodIn wsX0_completes (va_wsS RX0 30 yX0_areRising wsX0_areRising) := goodIn_app (goodIn_of _ (by decide +kernel)) ggX0_completes_X0_areRising
set_option maxRecDepth 20000 in
theorem ggX0_completes_X0_compared : GoodIn wsX0_completes wsX0_compared := goodIn_r _ [12, 5, 6, 7, 3, 8, 9] (by decide +kernel) (by decide +kernel)
set_option maxRecDepth 20000 in
theorem gX0_completes_X0_compared : GoodIn wsX0_completes (va_wsS RX0 34 yX0_compared wsX0_compared) := goodIn_app (goodIn_of _ (by decide +kernel)) ggX0_completes_X0_compared
set_option maxRecDepth 20000 in
theorem ggX0_completes_X0_completes : GoodIn wsX0_completes wsX0_completes := goodIn_r _ [0, 1, 2, 3, 4, 5, 6, 7, 8, 9, 10, 11, 12, 13, 14] (by decide +kernel) (by decide +kernel)
set_option maxRecDepth 20000 in
theorem gX0_completes_X0_completes : GoodIn wsX0_completes (va_wsS RX0 26 yX0_completes wsX0_completes) := goodIn_app (goodIn_of _ (by decide +kernel)) ggX0_completes_X0_completes
theorem dX0_completes_0 : decode cX0_completes 0 = .ok (.iload_n 3, 1) := by decide +kernel
theorem dX0_completes_1 : decode cX0_completes 1 = .ok (.iload 4, 2) := by decide +kernel
theorem dX0_completes_3 : decode cX0_completes 3 = .ok (.if_icmp .ge 10, 3) := by decide +kernel
theorem dX0_completes_6 : decode cX0_completes 6 = .ok (.iload_n 3, 1) := by decide +kernel
theorem dX0_completes_7 : decode cX0_completes 7 = .ok (.aload 5, 2) := by decide +kernel
theorem dX0_completes_9 : decode cX0_completes 9 = .ok (.arraylength, 1) := by decide +kernel
theorem dX0_completes_10 : decode cX0_completes 10 = .ok (.if_icmp .lt 9, 3) := by decide +kernel
theorem dX0_completes_13 : decode cX0_completes 13 = .ok (.lload_n 0, 1) := by decide +kernel
theorem dX0_completes_14 : decode cX0_completes 14 = .ok (.iload_n 2, 1) := by decide +kernel
theorem dX0_completes_15 : decode cX0_completes 15 = .ok (.invokestatic 30, 3) := by decide +kernel
theorem dX0_completes_18 : decode cX0_completes 18 = .ok (.ireturn, 1) := by decide +kernel
theorem dX0_completes_19 : decode cX0_completes 19 = .ok (.iconst 0, 1) := by decide +kernel
theorem dX0_completes_20 : decode cX0_completes 20 = .ok (.istore 6, 2) := by decide +kernel
theorem dX0_completes_22 : decode cX0_completes 22 = .ok (.iload 6, 2) := by decide +kernel
theorem dX0_completes_24 : decode cX0_completes 24 = .ok (.iload_n 2, 1) := by decide +kernel
theorem dX0_completes_25 : decode cX0_completes 25 = .ok (.if_icmp .ge 74, 3) := by decide +kernel
theorem dX0_completes_28 : decode cX0_completes 28 = .ok (.iload 6, 2) := by decide +kernel
theorem dX0_completes_30 : decode cX0_completes 30 = .ok (.iconst 1, 1) := by decide +kernel
theorem dX0_completes_31 : decode cX0_completes 31 = .ok (.iadd, 1) := by decide +kernel
theorem dX0_completes_32 : decode cX0_completes 32 = .ok (.istore 7, 2) := by decide +kernel
theorem dX0_completes_34 : decode cX0_completes 34 = .ok (.iload 7, 2) := by decide +kernel
theorem dX0_completes_36 : decode cX0_completes 36 = .ok (.iload_n 2, 1) := by decide +kernel
theorem dX0_completes_37 : decode cX0_completes 37 = .ok (.if_icmp .ge 56, 3) := by decide +kernel
theorem dX0_completes_40 : decode cX0_completes 40 = .ok (.lload_n 0, 1) := by decide +kernel
theorem dX0_completes_41 : decode cX0_completes 41 = .ok (.iload 6, 2) := by decide +kernel
theorem dX0_completes_43 : decode cX0_completes 43 = .ok (.iload 7, 2) := by decide +kernel
theorem dX0_completes_45 : decode cX0_completes 45 = .ok (.invokestatic 34, 3) := by decide +kernel
theorem dX0_completes_48 : decode cX0_completes 48 = .ok (.lstore 8, 2) := by decide +kernel
theorem dX0_completes_50 : decode cX0_completes 50 = .ok (.aload 5, 2) := by decide +kernel
theorem dX0_completes_52 : decode cX0_completes 52 = .ok (.iload_n 3, 1) := by decide +kernel
theorem dX0_completes_53 : decode cX0_completes 53 = .ok (.bipush 10, 2) := by decide +kernel
theorem dX0_completes_55 : decode cX0_completes 55 = .ok (.iload 6, 2) := by decide +kernel
theorem dX0_completes_57 : decode cX0_completes 57 = .ok (.imul, 1) := by decide +kernel
theorem dX0_completes_58 : decode cX0_completes 58 = .ok (.iload 7, 2) := by decide +kernel
theorem dX0_completes_60 : decode cX0_completes 60 = .ok (.iadd, 1) := by decide +kernel
theorem dX0_completes_61 : decode cX0_completes 61 = .ok (.iastore, 1) := by decide +kernel
theorem dX0_completes_62 : decode cX0_completes 62 = .ok (.lload 8, 2) := by decide +kernel
theorem dX0_completes_64 : decode cX0_completes 64 = .ok (.lload_n 0, 1) := by decide +kernel
theorem dX0_completes_65 : decode cX0_completes 65 = .ok (.lcmp, 1) := by decide +kernel
theorem dX0_completes_66 : decode cX0_completes 66 = .ok (.ifCond .eq 21, 3) := by decide +kernel
theorem dX0_completes_69 : decode cX0_completes 69 = .ok (.lload 8, 2) := by decide +kernel
theorem dX0_completes_71 : decode cX0_completes 71 = .ok (.iload_n 2, 1) := by decide +kernel
theorem dX0_completes_72 : decode cX0_completes 72 = .ok (.iload_n 3, 1) := by decide +kernel
theorem dX0_completes_73 : decode cX0_completes 73 = .ok (.iconst 1, 1) := by decide +kernel
theorem dX0_completes_74 : decode cX0_completes 74 = .ok (.iadd, 1) := by decide +kernel
theorem dX0_completes_75 : decode cX0_completes 75 = .ok (.iload 4, 2) := by decide +kernel
theorem dX0_completes_77 : decode cX0_completes 77 = .ok (.aload 5, 2) := by decide +kernel
theorem dX0_completes_79 : decode cX0_completes 79 = .ok (.invokestatic 26, 3) := by decide +kernel
theorem dX0_completes_82 : decode cX0_completes 82 = .ok (.ifCond .eq 5, 3) := by decide +kernel
theorem dX0_completes_85 : decode cX0_completes 85 = .ok (.iconst 1, 1) := by decide +kernel
theorem dX0_completes_86 : decode cX0_completes 86 = .ok (.ireturn, 1) := by decide +kernel
theorem dX0_completes_87 : decode cX0_completes 87 = .ok (.iinc 7 1, 3) := by decide +kernel
theorem dX0_completes_90 : decode cX0_completes 90 = .ok (.goto (-56), 3) := by decide +kernel
theorem dX0_completes_93 : decode cX0_completes 93 = .ok (.iinc 6 1, 3) := by decide +kernel
theorem dX0_completes_96 : decode cX0_completes 96 = .ok (.goto (-74), 3) := by decide +kernel
theorem dX0_completes_99 : decode cX0_completes 99 = .ok (.iconst 0, 1) := by decide +kernel
theorem dX0_completes_100 : decode cX0_completes 100 = .ok (.ireturn, 1) := by decide +kernel
theorem dX0_column_0 : decode cX0_column 0 = .ok (.lload_n 0, 1) := by decide +kernel
theorem dX0_column_1 : decode cX0_column 1 = .ok (.iload_n 2, 1) := by decide +kernel
theorem dX0_column_2 : decode cX0_column 2 = .ok (.bipush 16, 2) := by decide +kernel
theorem dX0_column_4 : decode cX0_column 4 = .ok (.imul, 1) := by decide +kernel
theorem dX0_column_5 : decode cX0_column 5 = .ok (.lushr, 1) := by decide +kernel
theorem dX0_column_6 : decode cX0_column 6 = .ok (.ldc2_w 38, 3) := by decide +kernel
theorem dX0_column_9 : decode cX0_column 9 = .ok (.land, 1) := by decide +kernel
theorem dX0_column_10 : decode cX0_column 10 = .ok (.lreturn, 1) := by decide +kernel
set_option maxRecDepth 20000 in
theorem ggX0_compared_X0_column : GoodIn wsX0_compared wsX0_column := goodIn_r _ [5, 6] (by decide +kernel) (by decide +kernel)
set_option maxRecDepth 20000 in
theorem gX0_compared_X0_column : GoodIn wsX0_compared (va_wsS RX0 40 yX0_column wsX0_column) := goodIn_app (goodIn_of _ (by decide +kernel)) ggX0_compared_X0_column
theorem dX0_compared_0 : decode cX0_compared 0 = .ok (.lload_n 0, 1) := by decide +kernel
theorem dX0_compared_1 : decode cX0_compared 1 = .ok (.iload_n 2, 1) := by decide +kernel
theorem dX0_compared_2 : decode cX0_compared 2 = .ok (.invokestatic 40, 3) := by decide +kernel
theorem dX0_compared_5 : decode cX0_compared 5 = .ok (.lload_n 0, 1) := by decide +kernel
theorem dX0_compared_6 : decode cX0_compared 6 = .ok (.iload_n 3, 1) := by decide +kernel
theorem dX0_compared_7 : decode cX0_compared 7 = .ok (.invokestatic 40, 3) := by decide +kernel
theorem dX0_compared_10 : decode cX0_compared 10 = .ok (.ldc2_w 44, 3) := by decide +kernel
theorem dX0_compared_13 : decode cX0_compared 13 = .ok (.lxor, 1) := by decide +kernel
theorem dX0_compared_14 : decode cX0_compared 14 = .ok (.land, 1) := by decide +kernel
theorem dX0_compared_15 : decode cX0_compared 15 = .ok (.lstore 4, 2) := by decide +kernel
theorem dX0_compared_17 : decode cX0_compared 17 = .ok (.lload_n 0, 1) := by decide +kernel
theorem dX0_compared_18 : decode cX0_compared 18 = .ok (.lload 4, 2) := by decide +kernel
theorem dX0_compared_20 : decode cX0_compared 20 = .ok (.iload_n 2, 1) := by decide +kernel
theorem dX0_compared_21 : decode cX0_compared 21 = .ok (.bipush 16, 2) := by decide +kernel
theorem dX0_compared_23 : decode cX0_compared 23 = .ok (.imul, 1) := by decide +kernel
theorem dX0_compared_24 : decode cX0_compared 24 = .ok (.lshl, 1) := by decide +kernel
theorem dX0_compared_25 : decode cX0_compared 25 = .ok (.lxor, 1) := by decide +kernel
theorem dX0_compared_26 : decode cX0_compared 26 = .ok (.lload 4, 2) := by decide +kernel
theorem dX0_compared_28 : decode cX0_compared 28 = .ok (.iload_n 3, 1) := by decide +kernel
theorem dX0_compared_29 : decode cX0_compared 29 = .ok (.bipush 16, 2) := by decide +kernel
theorem dX0_compared_31 : decode cX0_compared 31 = .ok (.imul, 1) := by decide +kernel
theorem dX0_compared_32 : decode cX0_compared 32 = .ok (.lshl, 1) := by decide +kernel
theorem dX0_compared_33 : decode cX0_compared 33 = .ok (.lxor, 1) := by decide +kernel
theorem dX0_compared_34 : decode cX0_compared 34 = .ok (.lreturn, 1) := by decide +kernel
set_option maxRecDepth 20000 in
theorem ggX0_areRising_X0_column : GoodIn wsX0_areRising wsX0_column := goodIn_r _ [5, 6] (by decide +kernel) (by decide +kernel)
set_option maxRecDepth 20000 in
theorem gX0_areRising_X0_column : GoodIn wsX0_areRising (va_wsS RX0 40 yX0_column wsX0_column) := goodIn_app (goodIn_of _ (by decide +kernel)) ggX0_areRising_X0_column
theorem dX0_areRising_0 : decode cX0_areRising 0 = .ok (.iconst 0, 1) := by decide +kernel
theorem dX0_areRising_1 : decode cX0_areRising 1 = .ok (.istore_n 3, 1) := by decide +kernel
theorem dX0_areRising_2 : decode cX0_areRising 2 = .ok (.iload_n 3, 1) := by decide +kernel
theorem dX0_areRising_3 : decode cX0_areRising 3 = .ok (.iconst 1, 1) := by decide +kernel
theorem dX0_areRising_4 : decode cX0_areRising 4 = .ok (.iadd, 1) := by decide +kernel
theorem dX0_areRising_5 : decode cX0_areRising 5 = .ok (.iload_n 2, 1) := by decide +kernel
theorem dX0_areRising_6 : decode cX0_areRising 6 = .ok (.if_icmp .ge 33, 3) := by decide +kernel
theorem dX0_areRising_9 : decode cX0_areRising 9 = .ok (.lload_n 0, 1) := by decide +kernel
theorem dX0_areRising_10 : decode cX0_areRising 10 = .ok (.iload_n 3, 1) := by decide +kernel
theorem dX0_areRising_11 : decode cX0_areRising 11 = .ok (.invokestatic 40, 3) := by decide +kernel
theorem dX0_areRising_14 : decode cX0_areRising 14 = .ok (.lload_n 0, 1) := by decide +kernel
theorem dX0_areRising_15 : decode cX0_areRising 15 = .ok (.iload_n 3, 1) := by decide +kernel
theorem dX0_areRising_16 : decode cX0_areRising 16 = .ok (.iconst 1, 1) := by decide +kernel
theorem dX0_areRising_17 : decode cX0_areRising 17 = .ok (.iadd, 1) := by decide +kernel
theorem dX0_areRising_18 : decode cX0_areRising 18 = .ok (.invokestatic 40, 3) := by decide +kernel
theorem dX0_areRising_21 : decode cX0_areRising 21 = .ok (.ldc2_w 44, 3) := by decide +kernel
theorem dX0_areRising_24 : decode cX0_areRising 24 = .ok (.lxor, 1) := by decide +kernel
theorem dX0_areRising_25 : decode cX0_areRising 25 = .ok (.land, 1) := by decide +kernel
theorem dX0_areRising_26 : decode cX0_areRising 26 = .ok (.lconst 0, 1) := by decide +kernel
theorem dX0_areRising_27 : decode cX0_areRising 27 = .ok (.lcmp, 1) := by decide +kernel
theorem dX0_areRising_28 : decode cX0_areRising 28 = .ok (.ifCond .eq 5, 3) := by decide +kernel
theorem dX0_areRising_31 : decode cX0_areRising 31 = .ok (.iconst 0, 1) := by decide +kernel
theorem dX0_areRising_32 : decode cX0_areRising 32 = .ok (.ireturn, 1) := by decide +kernel
theorem dX0_areRising_33 : decode cX0_areRising 33 = .ok (.iinc 3 1, 3) := by decide +kernel
theorem dX0_areRising_36 : decode cX0_areRising 36 = .ok (.goto (-34), 3) := by decide +kernel
theorem dX0_areRising_39 : decode cX0_areRising 39 = .ok (.iconst 1, 1) := by decide +kernel
theorem dX0_areRising_40 : decode cX0_areRising 40 = .ok (.ireturn, 1) := by decide +kernel
theorem dX1_init_0 : decode cX1_init 0 = .ok (.aload_n 0, 1) := by decide +kernel
theorem dX1_init_1 : decode cX1_init 1 = .ok (.invokespecial 3, 3) := by decide +kernel
theorem dX1_init_4 : decode cX1_init 4 = .ok (.aload_n 0, 1) := by decide +kernel
theorem dX1_init_5 : decode cX1_init 5 = .ok (.iconst 0, 1) := by decide +kernel
theorem dX1_init_6 : decode cX1_init 6 = .ok (.putfield 9, 3) := by decide +kernel
theorem dX1_init_9 : decode cX1_init 9 = .ok (.aload_n 0, 1) := by decide +kernel
theorem dX1_init_10 : decode cX1_init 10 = .ok (.iconst 0, 1) := by decide +kernel
theorem dX1_init_11 : decode cX1_init 11 = .ok (.putfield 15, 3) := by decide +kernel
theorem dX1_init_14 : decode cX1_init 14 = .ok (.aload_n 0, 1) := by decide +kernel
theorem dX1_init_15 : decode cX1_init 15 = .ok (.bipush 12, 2) := by decide +kernel
theorem dX1_init_17 : decode cX1_init 17 = .ok (.newarray .long, 2) := by decide +kernel
theorem dX1_init_19 : decode cX1_init 19 = .ok (.putfield 18, 3) := by decide +kernel
theorem dX1_init_22 : decode cX1_init 22 = .ok (.return_, 1) := by decide +kernel
theorem dX1_isMissing_0 : decode cX1_isMissing 0 = .ok (.aload_n 0, 1) := by decide +kernel
theorem dX1_isMissing_1 : decode cX1_isMissing 1 = .ok (.getfield 9, 3) := by decide +kernel
theorem dX1_isMissing_4 : decode cX1_isMissing 4 = .ok (.ifCond .ne 7, 3) := by decide +kernel
theorem dX1_isMissing_7 : decode cX1_isMissing 7 = .ok (.iconst 1, 1) := by decide +kernel
theorem dX1_isMissing_8 : decode cX1_isMissing 8 = .ok (.goto 4, 3) := by decide +kernel
theorem dX1_isMissing_11 : decode cX1_isMissing 11 = .ok (.iconst 0, 1) := by decide +kernel
theorem dX1_isMissing_12 : decode cX1_isMissing 12 = .ok (.ireturn, 1) := by decide +kernel
theorem dX1_hasPart_0 : decode cX1_hasPart 0 = .ok (.iload_n 1, 1) := by decide +kernel
theorem dX1_hasPart_1 : decode cX1_hasPart 1 = .ok (.ifCond .lt 21, 3) := by decide +kernel
theorem dX1_hasPart_4 : decode cX1_hasPart 4 = .ok (.iload_n 2, 1) := by decide +kernel
theorem dX1_hasPart_5 : decode cX1_hasPart 5 = .ok (.ifCond .lt 17, 3) := by decide +kernel
theorem dX1_hasPart_8 : decode cX1_hasPart 8 = .ok (.iload_n 1, 1) := by decide +kernel
theorem dX1_hasPart_9 : decode cX1_hasPart 9 = .ok (.aload_n 0, 1) := by decide +kernel
theorem dX1_hasPart_10 : decode cX1_hasPart 10 = .ok (.getfield 15, 3) := by decide +kernel
theorem dX1_hasPart_13 : decode cX1_hasPart 13 = .ok (.iload_n 2, 1) := by decide +kernel
theorem dX1_hasPart_14 : decode cX1_hasPart 14 = .ok (.isub, 1) := by decide +kernel
theorem dX1_hasPart_15 : decode cX1_hasPart 15 = .ok (.if_icmp .gt 7, 3) := by decide +kernel
theorem dX1_hasPart_18 : decode cX1_hasPart 18 = .ok (.iconst 1, 1) := by decide +kernel
theorem dX1_hasPart_19 : decode cX1_hasPart 19 = .ok (.goto 4, 3) := by decide +kernel
theorem dX1_hasPart_22 : decode cX1_hasPart 22 = .ok (.iconst 0, 1) := by decide +kernel
theorem dX1_hasPart_23 : decode cX1_hasPart 23 = .ok (.ireturn, 1) := by decide +kernel
theorem dX1_renew_0 : decode cX1_renew 0 = .ok (.aload_n 0, 1) := by decide +kernel
theorem dX1_renew_1 : decode cX1_renew 1 = .ok (.iload_n 1, 1) := by decide +kernel
theorem dX1_renew_2 : decode cX1_renew 2 = .ok (.putfield 9, 3) := by decide +kernel
theorem dX1_renew_5 : decode cX1_renew 5 = .ok (.aload_n 0, 1) := by decide +kernel
theorem dX1_renew_6 : decode cX1_renew 6 = .ok (.iload_n 2, 1) := by decide +kernel
theorem dX1_renew_7 : decode cX1_renew 7 = .ok (.putfield 15, 3) := by decide +kernel
theorem dX1_renew_10 : decode cX1_renew 10 = .ok (.iconst 0, 1) := by decide +kernel
theorem dX1_renew_11 : decode cX1_renew 11 = .ok (.istore_n 3, 1) := by decide +kernel
theorem dX1_renew_12 : decode cX1_renew 12 = .ok (.iload_n 3, 1) := by decide +kernel
theorem dX1_renew_13 : decode cX1_renew 13 = .ok (.bipush 12, 2) := by decide +kernel
theorem dX1_renew_15 : decode cX1_renew 15 = .ok (.if_icmp .ge 16, 3) := by decide +kernel
theorem dX1_renew_18 : decode cX1_renew 18 = .ok (.aload_n 0, 1) := by decide +kernel
theorem dX1_renew_19 : decode cX1_renew 19 = .ok (.getfield 18, 3) := by decide +kernel
theorem dX1_renew_22 : decode cX1_renew 22 = .ok (.iload_n 3, 1) := by decide +kernel
theorem dX1_renew_23 : decode cX1_renew 23 = .ok (.lconst 0, 1) := by decide +kernel
theorem dX1_renew_24 : decode cX1_renew 24 = .ok (.lastore, 1) := by decide +kernel
theorem dX1_renew_25 : decode cX1_renew 25 = .ok (.iinc 3 1, 3) := by decide +kernel
theorem dX1_renew_28 : decode cX1_renew 28 = .ok (.goto (-16), 3) := by decide +kernel
theorem dX1_renew_31 : decode cX1_renew 31 = .ok (.return_, 1) := by decide +kernel
set_option maxRecDepth 20000 in
theorem ggX1_write_X1_fitted : GoodIn wsX1_write wsX1_fitted := goodIn_r _ [6, 7, 8, 9, 10, 11, 12] (by decide +kernel) (by decide +kernel)
set_option maxRecDepth 20000 in
theorem gX1_write_X1_fitted : GoodIn wsX1_write (va_wsS RX1 22 yX1_fitted wsX1_fitted) := goodIn_app (goodIn_of _ (by decide +kernel)) ggX1_write_X1_fitted
theorem dX1_write_0 : decode cX1_write 0 = .ok (.aload_n 0, 1) := by decide +kernel
theorem dX1_write_1 : decode cX1_write 1 = .ok (.getfield 18, 3) := by decide +kernel
theorem dX1_write_4 : decode cX1_write 4 = .ok (.iload_n 1, 1) := by decide +kernel
theorem dX1_write_5 : decode cX1_write 5 = .ok (.aload_n 0, 1) := by decide +kernel
theorem dX1_write_6 : decode cX1_write 6 = .ok (.getfield 9, 3) := by decide +kernel
theorem dX1_write_9 : decode cX1_write 9 = .ok (.lload_n 2, 1) := by decide +kernel
theorem dX1_write_10 : decode cX1_write 10 = .ok (.invokestatic 22, 3) := by decide +kernel
theorem dX1_write_13 : decode cX1_write 13 = .ok (.lastore, 1) := by decide +kernel
theorem dX1_write_14 : decode cX1_write 14 = .ok (.return_, 1) := by decide +kernel
theorem dX1_fitted_0 : decode cX1_fitted 0 = .ok (.iload_n 0, 1) := by decide +kernel
theorem dX1_fitted_1 : decode cX1_fitted 1 = .ok (.tableswitch 102 1 7 #[43, 48, 53, 58, 102, 62, 82], 43) := by decide +kernel
theorem dX1_fitted_44 : decode cX1_fitted 44 = .ok (.lload_n 1, 1) := by decide +kernel
theorem dX1_fitted_45 : decode cX1_fitted 45 = .ok (.l2i, 1) := by decide +kernel
theorem dX1_fitted_46 : decode cX1_fitted 46 = .ok (.i2b, 1) := by decide +kernel
theorem dX1_fitted_47 : decode cX1_fitted 47 = .ok (.i2l, 1) := by decide +kernel
theorem dX1_fitted_48 : decode cX1_fitted 48 = .ok (.lreturn, 1) := by decide +kernel
theorem dX1_fitted_49 : decode cX1_fitted 49 = .ok (.lload_n 1, 1) := by decide +kernel
theorem dX1_fitted_50 : decode cX1_fitted 50 = .ok (.l2i, 1) := by decide +kernel
theorem dX1_fitted_51 : decode cX1_fitted 51 = .ok (.i2c, 1) := by decide +kernel
theorem dX1_fitted_52 : decode cX1_fitted 52 = .ok (.i2l, 1) := by decide +kernel
theorem dX1_fitted_53 : decode cX1_fitted 53 = .ok (.lreturn, 1) := by decide +kernel
theorem dX1_fitted_54 : decode cX1_fitted 54 = .ok (.lload_n 1, 1) := by decide +kernel
theorem dX1_fitted_55 : decode cX1_fitted 55 = .ok (.l2i, 1) := by decide +kernel
theorem dX1_fitted_56 : decode cX1_fitted 56 = .ok (.i2s, 1) := by decide +kernel
theorem dX1_fitted_57 : decode cX1_fitted 57 = .ok (.i2l, 1) := by decide +kernel
theorem dX1_fitted_58 : decode cX1_fitted 58 = .ok (.lreturn, 1) := by decide +kernel
theorem dX1_fitted_59 : decode cX1_fitted 59 = .ok (.lload_n 1, 1) := by decide +kernel
theorem dX1_fitted_60 : decode cX1_fitted 60 = .ok (.l2i, 1) := by decide +kernel
theorem dX1_fitted_61 : decode cX1_fitted 61 = .ok (.i2l, 1) := by decide +kernel
theorem dX1_fitted_62 : decode cX1_fitted 62 = .ok (.lreturn, 1) := by decide +kernel
theorem dX1_fitted_63 : decode cX1_fitted 63 = .ok (.lload_n 1, 1) := by decide +kernel
theorem dX1_fitted_64 : decode cX1_fitted 64 = .ok (.l2i, 1) := by decide +kernel
theorem dX1_fitted_65 : decode cX1_fitted 65 = .ok (.ldc 26, 2) := by decide +kernel
theorem dX1_fitted_67 : decode cX1_fitted 67 = .ok (.iand, 1) := by decide +kernel
theorem dX1_fitted_68 : decode cX1_fitted 68 = .ok (.ldc 27, 2) := by decide +kernel
theorem dX1_fitted_70 : decode cX1_fitted 70 = .ok (.if_icmp .le 9, 3) := by decide +kernel
theorem dX1_fitted_73 : decode cX1_fitted 73 = .ok (.ldc2_w 28, 3) := by decide +kernel
theorem dX1_fitted_76 : decode cX1_fitted 76 = .ok (.goto 6, 3) := by decide +kernel
theorem dX1_fitted_79 : decode cX1_fitted 79 = .ok (.lload_n 1, 1) := by decide +kernel
theorem dX1_fitted_80 : decode cX1_fitted 80 = .ok (.l2i, 1) := by decide +kernel
theorem dX1_fitted_81 : decode cX1_fitted 81 = .ok (.i2l, 1) := by decide +kernel
theorem dX1_fitted_82 : decode cX1_fitted 82 = .ok (.lreturn, 1) := by decide +kernel
theorem dX1_fitted_83 : decode cX1_fitted 83 = .ok (.lload_n 1, 1) := by decide +kernel
theorem dX1_fitted_84 : decode cX1_fitted 84 = .ok (.ldc2_w 30, 3) := by decide +kernel
theorem dX1_fitted_87 : decode cX1_fitted 87 = .ok (.land, 1) := by decide +kernel
theorem dX1_fitted_88 : decode cX1_fitted 88 = .ok (.ldc2_w 32, 3) := by decide +kernel
theorem dX1_fitted_91 : decode cX1_fitted 91 = .ok (.lcmp, 1) := by decide +kernel
theorem dX1_fitted_92 : decode cX1_fitted 92 = .ok (.ifCond .le 9, 3) := by decide +kernel
theorem dX1_fitted_95 : decode cX1_fitted 95 = .ok (.ldc2_w 34, 3) := by decide +kernel
theorem dX1_fitted_98 : decode cX1_fitted 98 = .ok (.goto 4, 3) := by decide +kernel
theorem dX1_fitted_101 : decode cX1_fitted 101 = .ok (.lload_n 1, 1) := by decide +kernel
theorem dX1_fitted_102 : decode cX1_fitted 102 = .ok (.lreturn, 1) := by decide +kernel
theorem dX1_fitted_103 : decode cX1_fitted 103 = .ok (.lload_n 1, 1) := by decide +kernel
theorem dX1_fitted_104 : decode cX1_fitted 104 = .ok (.lreturn, 1) := by decide +kernel
set_option maxRecDepth 20000 in
theorem ggX1_compare_X1_rank : GoodIn wsX1_compare wsX1_rank := goodIn_r _ [6, 7, 8, 13, 14, 15] (by decide +kernel) (by decide +kernel)
set_option maxRecDepth 20000 in
theorem gX1_compare_X1_rank : GoodIn wsX1_compare (wsV RX1 36 RX1 yX1_rank wsX1_rank) := goodIn_app (goodIn_of _ (by decide +kernel)) ggX1_compare_X1_rank
set_option maxRecDepth 20000 in
theorem ggX1_compare_J13_compare_74951 : GoodIn wsX1_compare wsJ13_compare_74951 := goodIn_r _ [12] (by decide +kernel) (by decide +kernel)
set_option maxRecDepth 20000 in
theorem gX1_compare_J13_compare_74951 : GoodIn wsX1_compare (va_wsS RX1 40 yJ13_compare_74951 wsJ13_compare_74951) := goodIn_app (goodIn_of _ (by decide +kernel)) ggX1_compare_J13_compare_74951
theorem dX1_compare_0 : decode cX1_compare 0 = .ok (.aload_n 0, 1) := by decide +kernel
theorem dX1_compare_1 : decode cX1_compare 1 = .ok (.aload_n 0, 1) := by decide +kernel
theorem dX1_compare_2 : decode cX1_compare 2 = .ok (.getfield 18, 3) := by decide +kernel
theorem dX1_compare_5 : decode cX1_compare 5 = .ok (.iload_n 1, 1) := by decide +kernel
theorem dX1_compare_6 : decode cX1_compare 6 = .ok (.laload, 1) := by decide +kernel
theorem dX1_compare_7 : decode cX1_compare 7 = .ok (.invokevirtual 36, 3) := by decide +kernel
theorem dX1_compare_10 : decode cX1_compare 10 = .ok (.aload_n 0, 1) := by decide +kernel
theorem dX1_compare_11 : decode cX1_compare 11 = .ok (.aload_n 0, 1) := by decide +kernel
theorem dX1_compare_12 : decode cX1_compare 12 = .ok (.getfield 18, 3) := by decide +kernel
theorem dX1_compare_15 : decode cX1_compare 15 = .ok (.iload_n 2, 1) := by decide +kernel
theorem dX1_compare_16 : decode cX1_compare 16 = .ok (.laload, 1) := by decide +kernel
theorem dX1_compare_17 : decode cX1_compare 17 = .ok (.invokevirtual 36, 3) := by decide +kernel
theorem dX1_compare_20 : decode cX1_compare 20 = .ok (.invokestatic 40, 3) := by decide +kernel
theorem dX1_compare_23 : decode cX1_compare 23 = .ok (.ireturn, 1) := by decide +kernel
theorem dX1_rank_0 : decode cX1_rank 0 = .ok (.aload_n 0, 1) := by decide +kernel
theorem dX1_rank_1 : decode cX1_rank 1 = .ok (.getfield 9, 3) := by decide +kernel
theorem dX1_rank_4 : decode cX1_rank 4 = .ok (.bipush 6, 2) := by decide +kernel
theorem dX1_rank_6 : decode cX1_rank 6 = .ok (.if_icmp .lt 13, 3) := by decide +kernel
theorem dX1_rank_9 : decode cX1_rank 9 = .ok (.lload_n 1, 1) := by decide +kernel
theorem dX1_rank_10 : decode cX1_rank 10 = .ok (.lconst 0, 1) := by decide +kernel
theorem dX1_rank_11 : decode cX1_rank 11 = .ok (.lcmp, 1) := by decide +kernel
theorem dX1_rank_12 : decode cX1_rank 12 = .ok (.ifCond .ge 7, 3) := by decide +kernel
theorem dX1_rank_15 : decode cX1_rank 15 = .ok (.iconst 1, 1) := by decide +kernel
theorem dX1_rank_16 : decode cX1_rank 16 = .ok (.goto 4, 3) := by decide +kernel
theorem dX1_rank_19 : decode cX1_rank 19 = .ok (.iconst 0, 1) := by decide +kernel
theorem dX1_rank_20 : decode cX1_rank 20 = .ok (.istore_n 3, 1) := by decide +kernel
theorem dX1_rank_21 : decode cX1_rank 21 = .ok (.iload_n 3, 1) := by decide +kernel
theorem dX1_rank_22 : decode cX1_rank 22 = .ok (.ifCond .eq 11, 3) := by decide +kernel
theorem dX1_rank_25 : decode cX1_rank 25 = .ok (.lload_n 1, 1) := by decide +kernel
theorem dX1_rank_26 : decode cX1_rank 26 = .ok (.ldc2_w 30, 3) := by decide +kernel
theorem dX1_rank_29 : decode cX1_rank 29 = .ok (.lxor, 1) := by decide +kernel
theorem dX1_rank_30 : decode cX1_rank 30 = .ok (.goto 4, 3) := by decide +kernel
theorem dX1_rank_33 : decode cX1_rank 33 = .ok (.lload_n 1, 1) := by decide +kernel
theorem dX1_rank_34 : decode cX1_rank 34 = .ok (.lreturn, 1) := by decide +kernel
set_option maxRecDepth 20000 in
theorem ggX1_mustChange_X1_compare : GoodIn wsX1_mustChange wsX1_compare := goodIn_r _ [5, 6, 7, 8, 9, 4, 10, 11, 12, 13, 14, 15, 16, 17, 18, 19] (by decide +kernel) (by decide +kernel)
set_option maxRecDepth 20000 in
theorem gX1_mustChange_X1_compare : GoodIn wsX1_mustChange (wsV RX1 46 RX1 yX1_compare wsX1_compare) := goodIn_app (goodIn_of _ (by decide +kernel)) ggX1_mustChange_X1_compare
theorem dX1_mustChange_0 : decode cX1_mustChange 0 = .ok (.iload_n 1, 1) := by decide +kernel
theorem dX1_mustChange_1 : decode cX1_mustChange 1 = .ok (.lookupswitch 57 #[(0, 27), (1, 42)], 27) := by decide +kernel
theorem dX1_mustChange_28 : decode cX1_mustChange 28 = .ok (.aload_n 0, 1) := by decide +kernel
theorem dX1_mustChange_29 : decode cX1_mustChange 29 = .ok (.iload_n 2, 1) := by decide +kernel
theorem dX1_mustChange_30 : decode cX1_mustChange 30 = .ok (.iload_n 3, 1) := by decide +kernel
theorem dX1_mustChange_31 : decode cX1_mustChange 31 = .ok (.invokevirtual 46, 3) := by decide +kernel
theorem dX1_mustChange_34 : decode cX1_mustChange 34 = .ok (.ifCond .le 7, 3) := by decide +kernel
theorem dX1_mustChange_37 : decode cX1_mustChange 37 = .ok (.iconst 1, 1) := by decide +kernel
theorem dX1_mustChange_38 : decode cX1_mustChange 38 = .ok (.goto 4, 3) := by decide +kernel
theorem dX1_mustChange_41 : decode cX1_mustChange 41 = .ok (.iconst 0, 1) := by decide +kernel
theorem dX1_mustChange_42 : decode cX1_mustChange 42 = .ok (.ireturn, 1) := by decide +kernel
theorem dX1_mustChange_43 : decode cX1_mustChange 43 = .ok (.aload_n 0, 1) := by decide +kernel
theorem dX1_mustChange_44 : decode cX1_mustChange 44 = .ok (.iload_n 2, 1) := by decide +kernel
theorem dX1_mustChange_45 : decode cX1_mustChange 45 = .ok (.iload_n 3, 1) := by decide +kernel
theorem dX1_mustChange_46 : decode cX1_mustChange 46 = .ok (.invokevirtual 46, 3) := by decide +kernel
theorem dX1_mustChange_49 : decode cX1_mustChange 49 = .ok (.ifCond .ge 7, 3) := by decide +kernel
theorem dX1_mustChange_52 : decode cX1_mustChange 52 = .ok (.iconst 1, 1) := by decide +kernel
theorem dX1_mustChange_53 : decode cX1_mustChange 53 = .ok (.goto 4, 3) := by decide +kernel
theorem dX1_mustChange_56 : decode cX1_mustChange 56 = .ok (.iconst 0, 1) := by decide +kernel
theorem dX1_mustChange_57 : decode cX1_mustChange 57 = .ok (.ireturn, 1) := by decide +kernel
theorem dX1_mustChange_58 : decode cX1_mustChange 58 = .ok (.iload_n 1, 1) := by decide +kernel
theorem dX1_mustChange_59 : decode cX1_mustChange 59 = .ok (.iconst 3, 1) := by decide +kernel
theorem dX1_mustChange_60 : decode cX1_mustChange 60 = .ok (.if_icmp .ne 7, 3) := by decide +kernel
theorem dX1_mustChange_63 : decode cX1_mustChange 63 = .ok (.iconst 1, 1) := by decide +kernel
theorem dX1_mustChange_64 : decode cX1_mustChange 64 = .ok (.goto 4, 3) := by decide +kernel
theorem dX1_mustChange_67 : decode cX1_mustChange 67 = .ok (.iconst 0, 1) := by decide +kernel
theorem dX1_mustChange_68 : decode cX1_mustChange 68 = .ok (.ireturn, 1) := by decide +kernel
theorem dX1_exchange_0 : decode cX1_exchange 0 = .ok (.aload_n 0, 1) := by decide +kernel
theorem dX1_exchange_1 : decode cX1_exchange 1 = .ok (.getfield 18, 3) := by decide +kernel
theorem dX1_exchange_4 : decode cX1_exchange 4 = .ok (.iload_n 1, 1) := by decide +kernel
theorem dX1_exchange_5 : decode cX1_exchange 5 = .ok (.laload, 1) := by decide +kernel
theorem dX1_exchange_6 : decode cX1_exchange 6 = .ok (.lstore_n 3, 1) := by decide +kernel
theorem dX1_exchange_7 : decode cX1_exchange 7 = .ok (.aload_n 0, 1) := by decide +kernel
theorem dX1_exchange_8 : decode cX1_exchange 8 = .ok (.getfield 18, 3) := by decide +kernel
theorem dX1_exchange_11 : decode cX1_exchange 11 = .ok (.iload_n 1, 1) := by decide +kernel
theorem dX1_exchange_12 : decode cX1_exchange 12 = .ok (.aload_n 0, 1) := by decide +kernel
theorem dX1_exchange_13 : decode cX1_exchange 13 = .ok (.getfield 18, 3) := by decide +kernel
theorem dX1_exchange_16 : decode cX1_exchange 16 = .ok (.iload_n 2, 1) := by decide +kernel
theorem dX1_exchange_17 : decode cX1_exchange 17 = .ok (.laload, 1) := by decide +kernel
theorem dX1_exchange_18 : decode cX1_exchange 18 = .ok (.lastore, 1) := by decide +kernel
theorem dX1_exchange_19 : decode cX1_exchange 19 = .ok (.aload_n 0, 1) := by decide +kernel
theorem dX1_exchange_20 : decode cX1_exchange 20 = .ok (.getfield 18, 3) := by decide +kernel
theorem dX1_exchange_23 : decode cX1_exchange 23 = .ok (.iload_n 2, 1) := by decide +kernel
theorem dX1_exchange_24 : decode cX1_exchange 24 = .ok (.lload_n 3, 1) := by decide +kernel
theorem dX1_exchange_25 : decode cX1_exchange 25 = .ok (.lastore, 1) := by decide +kernel
theorem dX1_exchange_26 : decode cX1_exchange 26 = .ok (.return_, 1) := by decide +kernel
set_option maxRecDepth 20000 in
theorem ggX2_init_X3_init : GoodIn wsX2_init wsX3_init := goodIn_r _ [11, 12, 2, 3, 13, 14, 15, 16, 20, 21, 22] (by decide +kernel) (by decide +kernel)
set_option maxRecDepth 20000 in
theorem gX2_init_X3_init_n24 : GoodIn wsX2_init (wsX3_init) := ggX2_init_X3_init
theorem dX2_init_0 : decode cX2_init 0 = .ok (.aload_n 0, 1) := by decide +kernel
theorem dX2_init_1 : decode cX2_init 1 = .ok (.invokespecial 3, 3) := by decide +kernel
theorem dX2_init_4 : decode cX2_init 4 = .ok (.aload_n 0, 1) := by decide +kernel
theorem dX2_init_5 : decode cX2_init 5 = .ok (.bipush 25, 2) := by decide +kernel
theorem dX2_init_7 : decode cX2_init 7 = .ok (.anewarray 9, 3) := by decide +kernel
theorem dX2_init_10 : decode cX2_init 10 = .ok (.putfield 11, 3) := by decide +kernel
theorem dX2_init_13 : decode cX2_init 13 = .ok (.aload_n 0, 1) := by decide +kernel
theorem dX2_init_14 : decode cX2_init 14 = .ok (.iconst 0, 1) := by decide +kernel
theorem dX2_init_15 : decode cX2_init 15 = .ok (.putfield 17, 3) := by decide +kernel
theorem dX2_init_18 : decode cX2_init 18 = .ok (.aload_n 0, 1) := by decide +kernel
theorem dX2_init_19 : decode cX2_init 19 = .ok (.iconst 0, 1) := by decide +kernel
theorem dX2_init_20 : decode cX2_init 20 = .ok (.putfield 21, 3) := by decide +kernel
theorem dX2_init_23 : decode cX2_init 23 = .ok (.iconst 0, 1) := by decide +kernel
theorem dX2_init_24 : decode cX2_init 24 = .ok (.istore_n 1, 1) := by decide +kernel
theorem dX2_init_25 : decode cX2_init 25 = .ok (.iload_n 1, 1) := by decide +kernel
theorem dX2_init_26 : decode cX2_init 26 = .ok (.bipush 25, 2) := by decide +kernel
theorem dX2_init_28 : decode cX2_init 28 = .ok (.if_icmp .ge 22, 3) := by decide +kernel
theorem dX2_init_31 : decode cX2_init 31 = .ok (.aload_n 0, 1) := by decide +kernel
theorem dX2_init_32 : decode cX2_init 32 = .ok (.getfield 11, 3) := by decide +kernel
theorem dX2_init_35 : decode cX2_init 35 = .ok (.iload_n 1, 1) := by decide +kernel
theorem dX2_init_36 : decode cX2_init 36 = .ok (.new 9, 3) := by decide +kernel
theorem dX2_init_39 : decode cX2_init 39 = .ok (.dup, 1) := by decide +kernel
theorem dX2_init_40 : decode cX2_init 40 = .ok (.invokespecial 24, 3) := by decide +kernel
theorem dX2_init_43 : decode cX2_init 43 = .ok (.aastore, 1) := by decide +kernel
theorem dX2_init_44 : decode cX2_init 44 = .ok (.iinc 1 1, 3) := by decide +kernel
theorem dX2_init_47 : decode cX2_init 47 = .ok (.goto (-22), 3) := by decide +kernel
theorem dX2_init_50 : decode cX2_init 50 = .ok (.return_, 1) := by decide +kernel
set_option maxRecDepth 20000 in
theorem ggX2_remember_X3_become : GoodIn wsX2_remember wsX3_become := goodIn_r _ [12, 13, 14, 15, 16, 17, 18, 19, 23, 24, 25] (by decide +kernel) (by decide +kernel)
set_option maxRecDepth 20000 in
theorem gX2_remember_X3_become : GoodIn wsX2_remember (wsV RX2 25 RX3 yX3_become wsX3_become) := goodIn_app (goodIn_of _ (by decide +kernel)) ggX2_remember_X3_become
theorem dX2_remember_0 : decode cX2_remember 0 = .ok (.aload_n 0, 1) := by decide +kernel
theorem dX2_remember_1 : decode cX2_remember 1 = .ok (.getfield 11, 3) := by decide +kernel
theorem dX2_remember_4 : decode cX2_remember 4 = .ok (.aload_n 0, 1) := by decide +kernel
theorem dX2_remember_5 : decode cX2_remember 5 = .ok (.getfield 17, 3) := by decide +kernel
theorem dX2_remember_8 : decode cX2_remember 8 = .ok (.aaload, 1) := by decide +kernel
theorem dX2_remember_9 : decode cX2_remember 9 = .ok (.aload_n 1, 1) := by decide +kernel
theorem dX2_remember_10 : decode cX2_remember 10 = .ok (.invokevirtual 25, 3) := by decide +kernel
theorem dX2_remember_13 : decode cX2_remember 13 = .ok (.aload_n 0, 1) := by decide +kernel
theorem dX2_remember_14 : decode cX2_remember 14 = .ok (.aload_n 0, 1) := by decide +kernel
theorem dX2_remember_15 : decode cX2_remember 15 = .ok (.getfield 17, 3) := by decide +kernel
theorem dX2_remember_18 : decode cX2_remember 18 = .ok (.iconst 1, 1) := by decide +kernel
theorem dX2_remember_19 : decode cX2_remember 19 = .ok (.iadd, 1) := by decide +kernel
theorem dX2_remember_20 : decode cX2_remember 20 = .ok (.bipush 25, 2) := by decide +kernel
theorem dX2_remember_22 : decode cX2_remember 22 = .ok (.if_icmp .ge 12, 3) := by decide +kernel
theorem dX2_remember_25 : decode cX2_remember 25 = .ok (.aload_n 0, 1) := by decide +kernel
theorem dX2_remember_26 : decode cX2_remember 26 = .ok (.getfield 17, 3) := by decide +kernel
theorem dX2_remember_29 : decode cX2_remember 29 = .ok (.iconst 1, 1) := by decide +kernel
theorem dX2_remember_30 : decode cX2_remember 30 = .ok (.iadd, 1) := by decide +kernel
theorem dX2_remember_31 : decode cX2_remember 31 = .ok (.goto 4, 3) := by decide +kernel
theorem dX2_remember_34 : decode cX2_remember 34 = .ok (.iconst 0, 1) := by decide +kernel
theorem dX2_remember_35 : decode cX2_remember 35 = .ok (.putfield 17, 3) := by decide +kernel
theorem dX2_remember_38 : decode cX2_remember 38 = .ok (.aload_n 0, 1) := by decide +kernel
theorem dX2_remember_39 : decode cX2_remember 39 = .ok (.aload_n 0, 1) := by decide +kernel
theorem dX2_remember_40 : decode cX2_remember 40 = .ok (.getfield 21, 3) := by decide +kernel
theorem dX2_remember_43 : decode cX2_remember 43 = .ok (.iconst 1, 1) := by decide +kernel
theorem dX2_remember_44 : decode cX2_remember 44 = .ok (.iadd, 1) := by decide +kernel
theorem dX2_remember_45 : decode cX2_remember 45 = .ok (.bipush 25, 2) := by decide +kernel
theorem dX2_remember_47 : decode cX2_remember 47 = .ok (.invokestatic 29, 3) := by decide +kernel
theorem dX2_remember_50 : decode cX2_remember 50 = .ok (.putfield 21, 3) := by decide +kernel
theorem dX2_remember_53 : decode cX2_remember 53 = .ok (.return_, 1) := by decide +kernel
set_option maxRecDepth 20000 in
theorem ggX2_giveBack_X3_become : GoodIn wsX2_giveBack wsX3_become := goodIn_r _ [8, 9, 10, 11, 12, 13, 14, 15, 19, 20, 21] (by decide +kernel) (by decide +kernel)
set_option maxRecDepth 20000 in
theorem gX2_giveBack_X3_become : GoodIn wsX2_giveBack (wsV RX2 25 RX3 yX3_become wsX3_become) := goodIn_app (goodIn_of _ (by decide +kernel)) ggX2_giveBack_X3_become
theorem dX2_giveBack_0 : decode cX2_giveBack 0 = .ok (.aload_n 0, 1) := by decide +kernel
theorem dX2_giveBack_1 : decode cX2_giveBack 1 = .ok (.getfield 21, 3) := by decide +kernel
theorem dX2_giveBack_4 : decode cX2_giveBack 4 = .ok (.ifCond .le 48, 3) := by decide +kernel
theorem dX2_giveBack_7 : decode cX2_giveBack 7 = .ok (.aload_n 0, 1) := by decide +kernel
theorem dX2_giveBack_8 : decode cX2_giveBack 8 = .ok (.aload_n 0, 1) := by decide +kernel
theorem dX2_giveBack_9 : decode cX2_giveBack 9 = .ok (.getfield 17, 3) := by decide +kernel
theorem dX2_giveBack_12 : decode cX2_giveBack 12 = .ok (.ifCond .le 12, 3) := by decide +kernel
theorem dX2_giveBack_15 : decode cX2_giveBack 15 = .ok (.aload_n 0, 1) := by decide +kernel
theorem dX2_giveBack_16 : decode cX2_giveBack 16 = .ok (.getfield 17, 3) := by decide +kernel
theorem dX2_giveBack_19 : decode cX2_giveBack 19 = .ok (.iconst 1, 1) := by decide +kernel
theorem dX2_giveBack_20 : decode cX2_giveBack 20 = .ok (.isub, 1) := by decide +kernel
theorem dX2_giveBack_21 : decode cX2_giveBack 21 = .ok (.goto 5, 3) := by decide +kernel
theorem dX2_giveBack_24 : decode cX2_giveBack 24 = .ok (.bipush 24, 2) := by decide +kernel
theorem dX2_giveBack_26 : decode cX2_giveBack 26 = .ok (.putfield 17, 3) := by decide +kernel
theorem dX2_giveBack_29 : decode cX2_giveBack 29 = .ok (.aload_n 0, 1) := by decide +kernel
theorem dX2_giveBack_30 : decode cX2_giveBack 30 = .ok (.dup, 1) := by decide +kernel
theorem dX2_giveBack_31 : decode cX2_giveBack 31 = .ok (.getfield 21, 3) := by decide +kernel
theorem dX2_giveBack_34 : decode cX2_giveBack 34 = .ok (.iconst 1, 1) := by decide +kernel
theorem dX2_giveBack_35 : decode cX2_giveBack 35 = .ok (.isub, 1) := by decide +kernel
theorem dX2_giveBack_36 : decode cX2_giveBack 36 = .ok (.putfield 21, 3) := by decide +kernel
theorem dX2_giveBack_39 : decode cX2_giveBack 39 = .ok (.aload_n 1, 1) := by decide +kernel
theorem dX2_giveBack_40 : decode cX2_giveBack 40 = .ok (.aload_n 0, 1) := by decide +kernel
theorem dX2_giveBack_41 : decode cX2_giveBack 41 = .ok (.getfield 11, 3) := by decide +kernel
theorem dX2_giveBack_44 : decode cX2_giveBack 44 = .ok (.aload_n 0, 1) := by decide +kernel
theorem dX2_giveBack_45 : decode cX2_giveBack 45 = .ok (.getfield 17, 3) := by decide +kernel
theorem dX2_giveBack_48 : decode cX2_giveBack 48 = .ok (.aaload, 1) := by decide +kernel
theorem dX2_giveBack_49 : decode cX2_giveBack 49 = .ok (.invokevirtual 25, 3) := by decide +kernel
theorem dX2_giveBack_52 : decode cX2_giveBack 52 = .ok (.return_, 1) := by decide +kernel
theorem dX3_init_0 : decode cX3_init 0 = .ok (.aload_n 0, 1) := by decide +kernel
theorem dX3_init_1 : decode cX3_init 1 = .ok (.invokespecial 3, 3) := by decide +kernel
theorem dX3_init_4 : decode cX3_init 4 = .ok (.aload_n 0, 1) := by decide +kernel
theorem dX3_init_5 : decode cX3_init 5 = .ok (.iconst 0, 1) := by decide +kernel
theorem dX3_init_6 : decode cX3_init 6 = .ok (.putfield 9, 3) := by decide +kernel
theorem dX3_init_9 : decode cX3_init 9 = .ok (.aload_n 0, 1) := by decide +kernel
theorem dX3_init_10 : decode cX3_init 10 = .ok (.iconst 0, 1) := by decide +kernel
theorem dX3_init_11 : decode cX3_init 11 = .ok (.putfield 15, 3) := by decide +kernel
theorem dX3_init_14 : decode cX3_init 14 = .ok (.aload_n 0, 1) := by decide +kernel
theorem dX3_init_15 : decode cX3_init 15 = .ok (.bipush 40, 2) := by decide +kernel
theorem dX3_init_17 : decode cX3_init 17 = .ok (.newarray .int, 2) := by decide +kernel
theorem dX3_init_19 : decode cX3_init 19 = .ok (.putfield 18, 3) := by decide +kernel
theorem dX3_init_22 : decode cX3_init 22 = .ok (.return_, 1) := by decide +kernel
theorem dX3_isNone_0 : decode cX3_isNone 0 = .ok (.aload_n 0, 1) := by decide +kernel
theorem dX3_isNone_1 : decode cX3_isNone 1 = .ok (.getfield 9, 3) := by decide +kernel
theorem dX3_isNone_4 : decode cX3_isNone 4 = .ok (.ifCond .ne 7, 3) := by decide +kernel
theorem dX3_isNone_7 : decode cX3_isNone 7 = .ok (.iconst 1, 1) := by decide +kernel
theorem dX3_isNone_8 : decode cX3_isNone 8 = .ok (.goto 4, 3) := by decide +kernel
theorem dX3_isNone_11 : decode cX3_isNone 11 = .ok (.iconst 0, 1) := by decide +kernel
theorem dX3_isNone_12 : decode cX3_isNone 12 = .ok (.ireturn, 1) := by decide +kernel
theorem dX3_has_0 : decode cX3_has 0 = .ok (.iload_n 1, 1) := by decide +kernel
theorem dX3_has_1 : decode cX3_has 1 = .ok (.ifCond .lt 15, 3) := by decide +kernel
theorem dX3_has_4 : decode cX3_has 4 = .ok (.iload_n 1, 1) := by decide +kernel
theorem dX3_has_5 : decode cX3_has 5 = .ok (.aload_n 0, 1) := by decide +kernel
theorem dX3_has_6 : decode cX3_has 6 = .ok (.getfield 15, 3) := by decide +kernel
theorem dX3_has_9 : decode cX3_has 9 = .ok (.if_icmp .ge 7, 3) := by decide +kernel
theorem dX3_has_12 : decode cX3_has 12 = .ok (.iconst 1, 1) := by decide +kernel
theorem dX3_has_13 : decode cX3_has 13 = .ok (.goto 4, 3) := by decide +kernel
theorem dX3_has_16 : decode cX3_has 16 = .ok (.iconst 0, 1) := by decide +kernel
theorem dX3_has_17 : decode cX3_has 17 = .ok (.ireturn, 1) := by decide +kernel
theorem dX3_hasLane_0 : decode cX3_hasLane 0 = .ok (.iload_n 1, 1) := by decide +kernel
theorem dX3_hasLane_1 : decode cX3_hasLane 1 = .ok (.ifCond .lt 15, 3) := by decide +kernel
theorem dX3_hasLane_4 : decode cX3_hasLane 4 = .ok (.iload_n 1, 1) := by decide +kernel
theorem dX3_hasLane_5 : decode cX3_hasLane 5 = .ok (.aload_n 0, 1) := by decide +kernel
theorem dX3_hasLane_6 : decode cX3_hasLane 6 = .ok (.getfield 9, 3) := by decide +kernel
theorem dX3_hasLane_9 : decode cX3_hasLane 9 = .ok (.if_icmp .ge 7, 3) := by decide +kernel
theorem dX3_hasLane_12 : decode cX3_hasLane 12 = .ok (.iconst 1, 1) := by decide +kernel
theorem dX3_hasLane_13 : decode cX3_hasLane 13 = .ok (.goto 4, 3) := by decide +kernel
theorem dX3_hasLane_16 : decode cX3_hasLane 16 = .ok (.iconst 0, 1) := by decide +kernel
theorem dX3_hasLane_17 : decode cX3_hasLane 17 = .ok (.ireturn, 1) := by decide +kernel
theorem dX3_kind_0 : decode cX3_kind 0 = .ok (.aload_n 0, 1) := by decide +kernel
theorem dX3_kind_1 : decode cX3_kind 1 = .ok (.getfield 18, 3) := by decide +kernel
theorem dX3_kind_4 : decode cX3_kind 4 = .ok (.iload_n 1, 1) := by decide +kernel
theorem dX3_kind_5 : decode cX3_kind 5 = .ok (.iaload, 1) := by decide +kernel
theorem dX3_kind_6 : decode cX3_kind 6 = .ok (.bipush 7, 2) := by decide +kernel
theorem dX3_kind_8 : decode cX3_kind 8 = .ok (.iand, 1) := by decide +kernel
theorem dX3_kind_9 : decode cX3_kind 9 = .ok (.ireturn, 1) := by decide +kernel
theorem dX3_low_0 : decode cX3_low 0 = .ok (.aload_n 0, 1) := by decide +kernel
theorem dX3_low_1 : decode cX3_low 1 = .ok (.getfield 18, 3) := by decide +kernel
theorem dX3_low_4 : decode cX3_low 4 = .ok (.iload_n 1, 1) := by decide +kernel
theorem dX3_low_5 : decode cX3_low 5 = .ok (.iaload, 1) := by decide +kernel
theorem dX3_low_6 : decode cX3_low 6 = .ok (.iconst 3, 1) := by decide +kernel
theorem dX3_low_7 : decode cX3_low 7 = .ok (.ishr, 1) := by decide +kernel
theorem dX3_low_8 : decode cX3_low 8 = .ok (.bipush 7, 2) := by decide +kernel
theorem dX3_low_10 : decode cX3_low 10 = .ok (.iand, 1) := by decide +kernel
theorem dX3_low_11 : decode cX3_low 11 = .ok (.ireturn, 1) := by decide +kernel
theorem dX3_high_0 : decode cX3_high 0 = .ok (.aload_n 0, 1) := by decide +kernel
theorem dX3_high_1 : decode cX3_high 1 = .ok (.getfield 18, 3) := by decide +kernel
theorem dX3_high_4 : decode cX3_high 4 = .ok (.iload_n 1, 1) := by decide +kernel
theorem dX3_high_5 : decode cX3_high 5 = .ok (.iaload, 1) := by decide +kernel
theorem dX3_high_6 : decode cX3_high 6 = .ok (.bipush 6, 2) := by decide +kernel
theorem dX3_high_8 : decode cX3_high 8 = .ok (.ishr, 1) := by decide +kernel
theorem dX3_high_9 : decode cX3_high 9 = .ok (.bipush 7, 2) := by decide +kernel
theorem dX3_high_11 : decode cX3_high 11 = .ok (.iand, 1) := by decide +kernel
theorem dX3_high_12 : decode cX3_high 12 = .ok (.ireturn, 1) := by decide +kernel
theorem dX3_switchOf_0 : decode cX3_switchOf 0 = .ok (.aload_n 0, 1) := by decide +kernel
theorem dX3_switchOf_1 : decode cX3_switchOf 1 = .ok (.getfield 18, 3) := by decide +kernel
theorem dX3_switchOf_4 : decode cX3_switchOf 4 = .ok (.iload_n 1, 1) := by decide +kernel
theorem dX3_switchOf_5 : decode cX3_switchOf 5 = .ok (.iaload, 1) := by decide +kernel
theorem dX3_switchOf_6 : decode cX3_switchOf 6 = .ok (.sipush 512, 3) := by decide +kernel
theorem dX3_switchOf_9 : decode cX3_switchOf 9 = .ok (.iand, 1) := by decide +kernel
theorem dX3_switchOf_10 : decode cX3_switchOf 10 = .ok (.ifCond .eq 7, 3) := by decide +kernel
theorem dX3_switchOf_13 : decode cX3_switchOf 13 = .ok (.iconst 1, 1) := by decide +kernel
theorem dX3_switchOf_14 : decode cX3_switchOf 14 = .ok (.goto 4, 3) := by decide +kernel
theorem dX3_switchOf_17 : decode cX3_switchOf 17 = .ok (.iconst 0, 1) := by decide +kernel
theorem dX3_switchOf_18 : decode cX3_switchOf 18 = .ok (.ireturn, 1) := by decide +kernel
set_option maxRecDepth 20000 in
theorem ggX3_actingKind_X3_kind : GoodIn wsX3_actingKind wsX3_kind := goodIn_r _ [5, 6, 11, 12, 13] (by decide +kernel) (by decide +kernel)
set_option maxRecDepth 20000 in
theorem gX3_actingKind_X3_kind : GoodIn wsX3_actingKind (wsV RX3 22 RX3 yX3_kind wsX3_kind) := goodIn_app (goodIn_of _ (by decide +kernel)) ggX3_actingKind_X3_kind
set_option maxRecDepth 20000 in
theorem ggX3_actingKind_X3_switchOf : GoodIn wsX3_actingKind wsX3_switchOf := goodIn_r _ [10, 6, 11, 12, 13] (by decide +kernel) (by decide +kernel)
set_option maxRecDepth 20000 in
theorem gX3_actingKind_X3_switchOf : GoodIn wsX3_actingKind (wsV RX3 26 RX3 yX3_switchOf wsX3_switchOf) := goodIn_app (goodIn_of _ (by decide +kernel)) ggX3_actingKind_X3_switchOf
theorem dX3_actingKind_0 : decode cX3_actingKind 0 = .ok (.aload_n 0, 1) := by decide +kernel
theorem dX3_actingKind_1 : decode cX3_actingKind 1 = .ok (.iload_n 1, 1) := by decide +kernel
theorem dX3_actingKind_2 : decode cX3_actingKind 2 = .ok (.invokevirtual 22, 3) := by decide +kernel
theorem dX3_actingKind_5 : decode cX3_actingKind 5 = .ok (.istore_n 2, 1) := by decide +kernel
theorem dX3_actingKind_6 : decode cX3_actingKind 6 = .ok (.iload_n 2, 1) := by decide +kernel
theorem dX3_actingKind_7 : decode cX3_actingKind 7 = .ok (.iconst 4, 1) := by decide +kernel
theorem dX3_actingKind_8 : decode cX3_actingKind 8 = .ok (.if_icmp .eq 5, 3) := by decide +kernel
theorem dX3_actingKind_11 : decode cX3_actingKind 11 = .ok (.iload_n 2, 1) := by decide +kernel
theorem dX3_actingKind_12 : decode cX3_actingKind 12 = .ok (.ireturn, 1) := by decide +kernel
theorem dX3_actingKind_13 : decode cX3_actingKind 13 = .ok (.aload_n 0, 1) := by decide +kernel
theorem dX3_actingKind_14 : decode cX3_actingKind 14 = .ok (.iload_n 1, 1) := by decide +kernel
theorem dX3_actingKind_15 : decode cX3_actingKind 15 = .ok (.invokevirtual 26, 3) := by decide +kernel
theorem dX3_actingKind_18 : decode cX3_actingKind 18 = .ok (.iconst 1, 1) := by decide +kernel
theorem dX3_actingKind_19 : decode cX3_actingKind 19 = .ok (.if_icmp .ne 7, 3) := by decide +kernel
theorem dX3_actingKind_22 : decode cX3_actingKind 22 = .ok (.iconst 0, 1) := by decide +kernel
theorem dX3_actingKind_23 : decode cX3_actingKind 23 = .ok (.goto 4, 3) := by decide +kernel
theorem dX3_actingKind_26 : decode cX3_actingKind 26 = .ok (.iconst 2, 1) := by decide +kernel
theorem dX3_actingKind_27 : decode cX3_actingKind 27 = .ok (.ireturn, 1) := by decide +kernel
theorem dX3_clear_0 : decode cX3_clear 0 = .ok (.aload_n 0, 1) := by decide +kernel
theorem dX3_clear_1 : decode cX3_clear 1 = .ok (.iload_n 1, 1) := by decide +kernel
theorem dX3_clear_2 : decode cX3_clear 2 = .ok (.putfield 9, 3) := by decide +kernel
theorem dX3_clear_5 : decode cX3_clear 5 = .ok (.aload_n 0, 1) := by decide +kernel
theorem dX3_clear_6 : decode cX3_clear 6 = .ok (.iconst 0, 1) := by decide +kernel
theorem dX3_clear_7 : decode cX3_clear 7 = .ok (.putfield 15, 3) := by decide +kernel
theorem dX3_clear_10 : decode cX3_clear 10 = .ok (.return_, 1) := by decide +kernel
set_option maxRecDepth 20000 in
theorem ggX3_add_X3_write : GoodIn wsX3_add wsX3_write := goodIn_r _ [6, 7, 8, 9, 10] (by decide +kernel) (by decide +kernel)
set_option maxRecDepth 20000 in
theorem gX3_add_X3_write : GoodIn wsX3_add (wsV RX3 29 RX3 yX3_write wsX3_write) := goodIn_app (goodIn_of _ (by decide +kernel)) ggX3_add_X3_write
theorem dX3_add_0 : decode cX3_add 0 = .ok (.aload_n 0, 1) := by decide +kernel
theorem dX3_add_1 : decode cX3_add 1 = .ok (.aload_n 0, 1) := by decide +kernel
theorem dX3_add_2 : decode cX3_add 2 = .ok (.getfield 15, 3) := by decide +kernel
theorem dX3_add_5 : decode cX3_add 5 = .ok (.iload_n 1, 1) := by decide +kernel
theorem dX3_add_6 : decode cX3_add 6 = .ok (.iload_n 2, 1) := by decide +kernel
theorem dX3_add_7 : decode cX3_add 7 = .ok (.iload_n 3, 1) := by decide +kernel
theorem dX3_add_8 : decode cX3_add 8 = .ok (.invokevirtual 29, 3) := by decide +kernel
theorem dX3_add_11 : decode cX3_add 11 = .ok (.aload_n 0, 1) := by decide +kernel
theorem dX3_add_12 : decode cX3_add 12 = .ok (.dup, 1) := by decide +kernel
theorem dX3_add_13 : decode cX3_add 13 = .ok (.getfield 15, 3) := by decide +kernel
theorem dX3_add_16 : decode cX3_add 16 = .ok (.iconst 1, 1) := by decide +kernel
theorem dX3_add_17 : decode cX3_add 17 = .ok (.iadd, 1) := by decide +kernel
theorem dX3_add_18 : decode cX3_add 18 = .ok (.putfield 15, 3) := by decide +kernel
theorem dX3_add_21 : decode cX3_add 21 = .ok (.return_, 1) := by decide +kernel
theorem dX3_write_0 : decode cX3_write 0 = .ok (.iload_n 2, 1) := by decide +kernel
theorem dX3_write_1 : decode cX3_write 1 = .ok (.iconst 4, 1) := by decide +kernel
theorem dX3_write_2 : decode cX3_write 2 = .ok (.if_icmp .ne 9, 3) := by decide +kernel
theorem dX3_write_5 : decode cX3_write 5 = .ok (.sipush 512, 3) := by decide +kernel
theorem dX3_write_8 : decode cX3_write 8 = .ok (.goto 4, 3) := by decide +kernel
theorem dX3_write_11 : decode cX3_write 11 = .ok (.iconst 0, 1) := by decide +kernel
theorem dX3_write_12 : decode cX3_write 12 = .ok (.istore 5, 2) := by decide +kernel
theorem dX3_write_14 : decode cX3_write 14 = .ok (.aload_n 0, 1) := by decide +kernel
theorem dX3_write_15 : decode cX3_write 15 = .ok (.getfield 18, 3) := by decide +kernel
theorem dX3_write_18 : decode cX3_write 18 = .ok (.iload_n 1, 1) := by decide +kernel
theorem dX3_write_19 : decode cX3_write 19 = .ok (.iload_n 2, 1) := by decide +kernel
theorem dX3_write_20 : decode cX3_write 20 = .ok (.iload_n 3, 1) := by decide +kernel
theorem dX3_write_21 : decode cX3_write 21 = .ok (.iconst 3, 1) := by decide +kernel
theorem dX3_write_22 : decode cX3_write 22 = .ok (.ishl, 1) := by decide +kernel
theorem dX3_write_23 : decode cX3_write 23 = .ok (.ior, 1) := by decide +kernel
theorem dX3_write_24 : decode cX3_write 24 = .ok (.iload 4, 2) := by decide +kernel
theorem dX3_write_26 : decode cX3_write 26 = .ok (.bipush 6, 2) := by decide +kernel
theorem dX3_write_28 : decode cX3_write 28 = .ok (.ishl, 1) := by decide +kernel
theorem dX3_write_29 : decode cX3_write 29 = .ok (.ior, 1) := by decide +kernel
theorem dX3_write_30 : decode cX3_write 30 = .ok (.iload 5, 2) := by decide +kernel
theorem dX3_write_32 : decode cX3_write 32 = .ok (.ior, 1) := by decide +kernel
theorem dX3_write_33 : decode cX3_write 33 = .ok (.iastore, 1) := by decide +kernel
theorem dX3_write_34 : decode cX3_write 34 = .ok (.return_, 1) := by decide +kernel
set_option maxRecDepth 20000 in
theorem ggX3_move_X3_kind : GoodIn wsX3_move wsX3_kind := goodIn_r _ [6, 1, 7, 8, 9] (by decide +kernel) (by decide +kernel)
set_option maxRecDepth 20000 in
theorem gX3_move_X3_kind : GoodIn wsX3_move (wsV RX3 22 RX3 yX3_kind wsX3_kind) := goodIn_app (goodIn_of _ (by decide +kernel)) ggX3_move_X3_kind
theorem dX3_move_0 : decode cX3_move 0 = .ok (.aload_n 0, 1) := by decide +kernel
theorem dX3_move_1 : decode cX3_move 1 = .ok (.getfield 18, 3) := by decide +kernel
theorem dX3_move_4 : decode cX3_move 4 = .ok (.iload_n 1, 1) := by decide +kernel
theorem dX3_move_5 : decode cX3_move 5 = .ok (.iaload, 1) := by decide +kernel
theorem dX3_move_6 : decode cX3_move 6 = .ok (.sipush 512, 3) := by decide +kernel
theorem dX3_move_9 : decode cX3_move 9 = .ok (.iand, 1) := by decide +kernel
theorem dX3_move_10 : decode cX3_move 10 = .ok (.istore 4, 2) := by decide +kernel
theorem dX3_move_12 : decode cX3_move 12 = .ok (.aload_n 0, 1) := by decide +kernel
theorem dX3_move_13 : decode cX3_move 13 = .ok (.getfield 18, 3) := by decide +kernel
theorem dX3_move_16 : decode cX3_move 16 = .ok (.iload_n 1, 1) := by decide +kernel
theorem dX3_move_17 : decode cX3_move 17 = .ok (.aload_n 0, 1) := by decide +kernel
theorem dX3_move_18 : decode cX3_move 18 = .ok (.iload_n 1, 1) := by decide +kernel
theorem dX3_move_19 : decode cX3_move 19 = .ok (.invokevirtual 22, 3) := by decide +kernel
theorem dX3_move_22 : decode cX3_move 22 = .ok (.iload_n 2, 1) := by decide +kernel
theorem dX3_move_23 : decode cX3_move 23 = .ok (.iconst 3, 1) := by decide +kernel
theorem dX3_move_24 : decode cX3_move 24 = .ok (.ishl, 1) := by decide +kernel
theorem dX3_move_25 : decode cX3_move 25 = .ok (.ior, 1) := by decide +kernel
theorem dX3_move_26 : decode cX3_move 26 = .ok (.iload_n 3, 1) := by decide +kernel
theorem dX3_move_27 : decode cX3_move 27 = .ok (.bipush 6, 2) := by decide +kernel
theorem dX3_move_29 : decode cX3_move 29 = .ok (.ishl, 1) := by decide +kernel
theorem dX3_move_30 : decode cX3_move 30 = .ok (.ior, 1) := by decide +kernel
theorem dX3_move_31 : decode cX3_move 31 = .ok (.iload 4, 2) := by decide +kernel
theorem dX3_move_33 : decode cX3_move 33 = .ok (.ior, 1) := by decide +kernel
theorem dX3_move_34 : decode cX3_move 34 = .ok (.iastore, 1) := by decide +kernel
theorem dX3_move_35 : decode cX3_move 35 = .ok (.return_, 1) := by decide +kernel
theorem dX3_setSwitch_0 : decode cX3_setSwitch 0 = .ok (.aload_n 0, 1) := by decide +kernel
theorem dX3_setSwitch_1 : decode cX3_setSwitch 1 = .ok (.getfield 18, 3) := by decide +kernel
theorem dX3_setSwitch_4 : decode cX3_setSwitch 4 = .ok (.iload_n 1, 1) := by decide +kernel
theorem dX3_setSwitch_5 : decode cX3_setSwitch 5 = .ok (.iload_n 2, 1) := by decide +kernel
theorem dX3_setSwitch_6 : decode cX3_setSwitch 6 = .ok (.ifCond .eq 16, 3) := by decide +kernel
theorem dX3_setSwitch_9 : decode cX3_setSwitch 9 = .ok (.aload_n 0, 1) := by decide +kernel
theorem dX3_setSwitch_10 : decode cX3_setSwitch 10 = .ok (.getfield 18, 3) := by decide +kernel
theorem dX3_setSwitch_13 : decode cX3_setSwitch 13 = .ok (.iload_n 1, 1) := by decide +kernel
theorem dX3_setSwitch_14 : decode cX3_setSwitch 14 = .ok (.iaload, 1) := by decide +kernel
theorem dX3_setSwitch_15 : decode cX3_setSwitch 15 = .ok (.sipush 512, 3) := by decide +kernel
theorem dX3_setSwitch_18 : decode cX3_setSwitch 18 = .ok (.ior, 1) := by decide +kernel
theorem dX3_setSwitch_19 : decode cX3_setSwitch 19 = .ok (.goto 13, 3) := by decide +kernel
theorem dX3_setSwitch_22 : decode cX3_setSwitch 22 = .ok (.aload_n 0, 1) := by decide +kernel
theorem dX3_setSwitch_23 : decode cX3_setSwitch 23 = .ok (.getfield 18, 3) := by decide +kernel
theorem dX3_setSwitch_26 : decode cX3_setSwitch 26 = .ok (.iload_n 1, 1) := by decide +kernel
theorem dX3_setSwitch_27 : decode cX3_setSwitch 27 = .ok (.iaload, 1) := by decide +kernel
theorem dX3_setSwitch_28 : decode cX3_setSwitch 28 = .ok (.sipush (-513), 3) := by decide +kernel
theorem dX3_setSwitch_31 : decode cX3_setSwitch 31 = .ok (.iand, 1) := by decide +kernel
theorem dX3_setSwitch_32 : decode cX3_setSwitch 32 = .ok (.iastore, 1) := by decide +kernel
theorem dX3_setSwitch_33 : decode cX3_setSwitch 33 = .ok (.return_, 1) := by decide +kernel
theorem dX3_become_0 : decode cX3_become 0 = .ok (.aload_n 0, 1) := by decide +kernel
theorem dX3_become_1 : decode cX3_become 1 = .ok (.aload_n 1, 1) := by decide +kernel
theorem dX3_become_2 : decode cX3_become 2 = .ok (.getfield 9, 3) := by decide +kernel
theorem dX3_become_5 : decode cX3_become 5 = .ok (.putfield 9, 3) := by decide +kernel
theorem dX3_become_8 : decode cX3_become 8 = .ok (.aload_n 0, 1) := by decide +kernel
theorem dX3_become_9 : decode cX3_become 9 = .ok (.aload_n 1, 1) := by decide +kernel
theorem dX3_become_10 : decode cX3_become 10 = .ok (.getfield 15, 3) := by decide +kernel
theorem dX3_become_13 : decode cX3_become 13 = .ok (.putfield 15, 3) := by decide +kernel
theorem dX3_become_16 : decode cX3_become 16 = .ok (.aload_n 1, 1) := by decide +kernel
theorem dX3_become_17 : decode cX3_become 17 = .ok (.getfield 18, 3) := by decide +kernel
theorem dX3_become_20 : decode cX3_become 20 = .ok (.iconst 0, 1) := by decide +kernel
theorem dX3_become_21 : decode cX3_become 21 = .ok (.aload_n 0, 1) := by decide +kernel
theorem dX3_become_22 : decode cX3_become 22 = .ok (.getfield 18, 3) := by decide +kernel
theorem dX3_become_25 : decode cX3_become 25 = .ok (.iconst 0, 1) := by decide +kernel
theorem dX3_become_26 : decode cX3_become 26 = .ok (.aload_n 1, 1) := by decide +kernel
theorem dX3_become_27 : decode cX3_become 27 = .ok (.getfield 15, 3) := by decide +kernel
theorem dX3_become_30 : decode cX3_become 30 = .ok (.invokestatic 33, 3) := by decide +kernel
theorem dX3_become_33 : decode cX3_become 33 = .ok (.return_, 1) := by decide +kernel
theorem dX4_init_0 : decode cX4_init 0 = .ok (.aload_n 0, 1) := by decide +kernel
theorem dX4_init_1 : decode cX4_init 1 = .ok (.invokespecial 3, 3) := by decide +kernel
theorem dX4_init_4 : decode cX4_init 4 = .ok (.aload_n 0, 1) := by decide +kernel
theorem dX4_init_5 : decode cX4_init 5 = .ok (.bipush 8, 2) := by decide +kernel
theorem dX4_init_7 : decode cX4_init 7 = .ok (.newarray .long, 2) := by decide +kernel
theorem dX4_init_9 : decode cX4_init 9 = .ok (.putfield 9, 3) := by decide +kernel
theorem dX4_init_12 : decode cX4_init 12 = .ok (.aload_n 0, 1) := by decide +kernel
theorem dX4_init_13 : decode cX4_init 13 = .ok (.lconst 0, 1) := by decide +kernel
theorem dX4_init_14 : decode cX4_init 14 = .ok (.putfield 15, 3) := by decide +kernel
theorem dX4_init_17 : decode cX4_init 17 = .ok (.return_, 1) := by decide +kernel
theorem dX4_blocks_0 : decode cX4_blocks 0 = .ok (.iload_n 0, 1) := by decide +kernel
theorem dX4_blocks_1 : decode cX4_blocks 1 = .ok (.bipush 6, 2) := by decide +kernel
theorem dX4_blocks_3 : decode cX4_blocks 3 = .ok (.if_icmp .le 12, 3) := by decide +kernel
theorem dX4_blocks_6 : decode cX4_blocks 6 = .ok (.iconst 1, 1) := by decide +kernel
theorem dX4_blocks_7 : decode cX4_blocks 7 = .ok (.iload_n 0, 1) := by decide +kernel
theorem dX4_blocks_8 : decode cX4_blocks 8 = .ok (.bipush 6, 2) := by decide +kernel
theorem dX4_blocks_10 : decode cX4_blocks 10 = .ok (.isub, 1) := by decide +kernel
theorem dX4_blocks_11 : decode cX4_blocks 11 = .ok (.ishl, 1) := by decide +kernel
theorem dX4_blocks_12 : decode cX4_blocks 12 = .ok (.goto 4, 3) := by decide +kernel
theorem dX4_blocks_15 : decode cX4_blocks 15 = .ok (.iconst 1, 1) := by decide +kernel
theorem dX4_blocks_16 : decode cX4_blocks 16 = .ok (.ireturn, 1) := by decide +kernel
set_option maxRecDepth 20000 in
theorem ggX4_leastOf_J13_bitCount_95d88 : GoodIn wsX4_leastOf wsJ13_bitCount_95d88 := goodIn_r _ [4, 5, 6, 7] (by decide +kernel) (by decide +kernel)
set_option maxRecDepth 20000 in
theorem gX4_leastOf_J13_bitCount_95d88 : GoodIn wsX4_leastOf (va_wsS RX4 19 yJ13_bitCount_95d88 wsJ13_bitCount_95d88) := goodIn_app (goodIn_of _ (by decide +kernel)) ggX4_leastOf_J13_bitCount_95d88
theorem dX4_leastOf_0 : decode cX4_leastOf 0 = .ok (.iload_n 2, 1) := by decide +kernel
theorem dX4_leastOf_1 : decode cX4_leastOf 1 = .ok (.bipush 64, 2) := by decide +kernel
theorem dX4_leastOf_3 : decode cX4_leastOf 3 = .ok (.imul, 1) := by decide +kernel
theorem dX4_leastOf_4 : decode cX4_leastOf 4 = .ok (.lload_n 0, 1) := by decide +kernel
theorem dX4_leastOf_5 : decode cX4_leastOf 5 = .ok (.lload_n 0, 1) := by decide +kernel
theorem dX4_leastOf_6 : decode cX4_leastOf 6 = .ok (.lneg, 1) := by decide +kernel
theorem dX4_leastOf_7 : decode cX4_leastOf 7 = .ok (.land, 1) := by decide +kernel
theorem dX4_leastOf_8 : decode cX4_leastOf 8 = .ok (.lconst 1, 1) := by decide +kernel
theorem dX4_leastOf_9 : decode cX4_leastOf 9 = .ok (.lsub, 1) := by decide +kernel
theorem dX4_leastOf_10 : decode cX4_leastOf 10 = .ok (.invokestatic 19, 3) := by decide +kernel
theorem dX4_leastOf_13 : decode cX4_leastOf 13 = .ok (.iadd, 1) := by decide +kernel
theorem dX4_leastOf_14 : decode cX4_leastOf 14 = .ok (.ireturn, 1) := by decide +kernel
set_option maxRecDepth 20000 in
theorem ggX4_start_X4_firstColumn : GoodIn wsX4_start wsX4_firstColumn := goodIn_r _ [7, 8, 1] (by decide +kernel) (by decide +kernel)
set_option maxRecDepth 20000 in
theorem gX4_start_X4_firstColumn : GoodIn wsX4_start (va_wsS RX4 27 yX4_firstColumn wsX4_firstColumn) := goodIn_app (goodIn_of _ (by decide +kernel)) ggX4_start_X4_firstColumn
theorem dX4_start_0 : decode cX4_start 0 = .ok (.aload_n 0, 1) := by decide +kernel
theorem dX4_start_1 : decode cX4_start 1 = .ok (.iload_n 1, 1) := by decide +kernel
theorem dX4_start_2 : decode cX4_start 2 = .ok (.bipush 6, 2) := by decide +kernel
theorem dX4_start_4 : decode cX4_start 4 = .ok (.if_icmp .ge 13, 3) := by decide +kernel
theorem dX4_start_7 : decode cX4_start 7 = .ok (.lconst 1, 1) := by decide +kernel
theorem dX4_start_8 : decode cX4_start 8 = .ok (.iconst 1, 1) := by decide +kernel
theorem dX4_start_9 : decode cX4_start 9 = .ok (.iload_n 1, 1) := by decide +kernel
theorem dX4_start_10 : decode cX4_start 10 = .ok (.ishl, 1) := by decide +kernel
theorem dX4_start_11 : decode cX4_start 11 = .ok (.lshl, 1) := by decide +kernel
theorem dX4_start_12 : decode cX4_start 12 = .ok (.lconst 1, 1) := by decide +kernel
theorem dX4_start_13 : decode cX4_start 13 = .ok (.lsub, 1) := by decide +kernel
theorem dX4_start_14 : decode cX4_start 14 = .ok (.goto 6, 3) := by decide +kernel
theorem dX4_start_17 : decode cX4_start 17 = .ok (.ldc2_w 25, 3) := by decide +kernel
theorem dX4_start_20 : decode cX4_start 20 = .ok (.putfield 15, 3) := by decide +kernel
theorem dX4_start_23 : decode cX4_start 23 = .ok (.iconst 0, 1) := by decide +kernel
theorem dX4_start_24 : decode cX4_start 24 = .ok (.istore_n 3, 1) := by decide +kernel
theorem dX4_start_25 : decode cX4_start 25 = .ok (.iload_n 3, 1) := by decide +kernel
theorem dX4_start_26 : decode cX4_start 26 = .ok (.iload_n 1, 1) := by decide +kernel
theorem dX4_start_27 : decode cX4_start 27 = .ok (.if_icmp .ge 25, 3) := by decide +kernel
theorem dX4_start_30 : decode cX4_start 30 = .ok (.aload_n 0, 1) := by decide +kernel
theorem dX4_start_31 : decode cX4_start 31 = .ok (.getfield 9, 3) := by decide +kernel
theorem dX4_start_34 : decode cX4_start 34 = .ok (.iload_n 3, 1) := by decide +kernel
theorem dX4_start_35 : decode cX4_start 35 = .ok (.aload_n 0, 1) := by decide +kernel
theorem dX4_start_36 : decode cX4_start 36 = .ok (.getfield 15, 3) := by decide +kernel
theorem dX4_start_39 : decode cX4_start 39 = .ok (.iload_n 3, 1) := by decide +kernel
theorem dX4_start_40 : decode cX4_start 40 = .ok (.iload_n 2, 1) := by decide +kernel
theorem dX4_start_41 : decode cX4_start 41 = .ok (.invokestatic 27, 3) := by decide +kernel
theorem dX4_start_44 : decode cX4_start 44 = .ok (.land, 1) := by decide +kernel
theorem dX4_start_45 : decode cX4_start 45 = .ok (.lastore, 1) := by decide +kernel
theorem dX4_start_46 : decode cX4_start 46 = .ok (.iinc 3 1, 3) := by decide +kernel
theorem dX4_start_49 : decode cX4_start 49 = .ok (.goto (-24), 3) := by decide +kernel
theorem dX4_start_52 : decode cX4_start 52 = .ok (.return_, 1) := by decide +kernel
theorem dX4_firstColumn_0 : decode cX4_firstColumn 0 = .ok (.iload_n 0, 1) := by decide +kernel
theorem dX4_firstColumn_1 : decode cX4_firstColumn 1 = .ok (.bipush 6, 2) := by decide +kernel
theorem dX4_firstColumn_3 : decode cX4_firstColumn 3 = .ok (.if_icmp .ge 9, 3) := by decide +kernel
theorem dX4_firstColumn_6 : decode cX4_firstColumn 6 = .ok (.getstatic 31, 3) := by decide +kernel
theorem dX4_firstColumn_9 : decode cX4_firstColumn 9 = .ok (.iload_n 0, 1) := by decide +kernel
theorem dX4_firstColumn_10 : decode cX4_firstColumn 10 = .ok (.laload, 1) := by decide +kernel
theorem dX4_firstColumn_11 : decode cX4_firstColumn 11 = .ok (.lreturn, 1) := by decide +kernel
theorem dX4_firstColumn_12 : decode cX4_firstColumn 12 = .ok (.iload_n 1, 1) := by decide +kernel
theorem dX4_firstColumn_13 : decode cX4_firstColumn 13 = .ok (.iload_n 0, 1) := by decide +kernel
theorem dX4_firstColumn_14 : decode cX4_firstColumn 14 = .ok (.bipush 6, 2) := by decide +kernel
theorem dX4_firstColumn_16 : decode cX4_firstColumn 16 = .ok (.isub, 1) := by decide +kernel
theorem dX4_firstColumn_17 : decode cX4_firstColumn 17 = .ok (.ishr, 1) := by decide +kernel
theorem dX4_firstColumn_18 : decode cX4_firstColumn 18 = .ok (.iconst 1, 1) := by decide +kernel
theorem dX4_firstColumn_19 : decode cX4_firstColumn 19 = .ok (.iand, 1) := by decide +kernel
theorem dX4_firstColumn_20 : decode cX4_firstColumn 20 = .ok (.ifCond .eq 9, 3) := by decide +kernel
theorem dX4_firstColumn_23 : decode cX4_firstColumn 23 = .ok (.ldc2_w 25, 3) := by decide +kernel
theorem dX4_firstColumn_26 : decode cX4_firstColumn 26 = .ok (.goto 4, 3) := by decide +kernel
theorem dX4_firstColumn_29 : decode cX4_firstColumn 29 = .ok (.lconst 0, 1) := by decide +kernel
theorem dX4_firstColumn_30 : decode cX4_firstColumn 30 = .ok (.lreturn, 1) := by decide +kernel
theorem dX4_changing_0 : decode cX4_changing 0 = .ok (.iload_n 1, 1) := by decide +kernel
theorem dX4_changing_1 : decode cX4_changing 1 = .ok (.lookupswitch 63 #[(0, 27), (1, 45)], 27) := by decide +kernel
theorem dX4_changing_28 : decode cX4_changing 28 = .ok (.aload_n 0, 1) := by decide +kernel
theorem dX4_changing_29 : decode cX4_changing 29 = .ok (.getfield 9, 3) := by decide +kernel
theorem dX4_changing_32 : decode cX4_changing 32 = .ok (.iload_n 2, 1) := by decide +kernel
theorem dX4_changing_33 : decode cX4_changing 33 = .ok (.laload, 1) := by decide +kernel
theorem dX4_changing_34 : decode cX4_changing 34 = .ok (.aload_n 0, 1) := by decide +kernel
theorem dX4_changing_35 : decode cX4_changing 35 = .ok (.getfield 9, 3) := by decide +kernel
theorem dX4_changing_38 : decode cX4_changing 38 = .ok (.iload_n 3, 1) := by decide +kernel
theorem dX4_changing_39 : decode cX4_changing 39 = .ok (.laload, 1) := by decide +kernel
theorem dX4_changing_40 : decode cX4_changing 40 = .ok (.ldc2_w 25, 3) := by decide +kernel
theorem dX4_changing_43 : decode cX4_changing 43 = .ok (.lxor, 1) := by decide +kernel
theorem dX4_changing_44 : decode cX4_changing 44 = .ok (.land, 1) := by decide +kernel
theorem dX4_changing_45 : decode cX4_changing 45 = .ok (.lreturn, 1) := by decide +kernel
theorem dX4_changing_46 : decode cX4_changing 46 = .ok (.aload_n 0, 1) := by decide +kernel
theorem dX4_changing_47 : decode cX4_changing 47 = .ok (.getfield 9, 3) := by decide +kernel
theorem dX4_changing_50 : decode cX4_changing 50 = .ok (.iload_n 3, 1) := by decide +kernel
theorem dX4_changing_51 : decode cX4_changing 51 = .ok (.laload, 1) := by decide +kernel
theorem dX4_changing_52 : decode cX4_changing 52 = .ok (.aload_n 0, 1) := by decide +kernel
theorem dX4_changing_53 : decode cX4_changing 53 = .ok (.getfield 9, 3) := by decide +kernel
theorem dX4_changing_56 : decode cX4_changing 56 = .ok (.iload_n 2, 1) := by decide +kernel
theorem dX4_changing_57 : decode cX4_changing 57 = .ok (.laload, 1) := by decide +kernel
theorem dX4_changing_58 : decode cX4_changing 58 = .ok (.ldc2_w 25, 3) := by decide +kernel
theorem dX4_changing_61 : decode cX4_changing 61 = .ok (.lxor, 1) := by decide +kernel
theorem dX4_changing_62 : decode cX4_changing 62 = .ok (.land, 1) := by decide +kernel
theorem dX4_changing_63 : decode cX4_changing 63 = .ok (.lreturn, 1) := by decide +kernel
theorem dX4_changing_64 : decode cX4_changing 64 = .ok (.iload_n 1, 1) := by decide +kernel
theorem dX4_changing_65 : decode cX4_changing 65 = .ok (.iconst 3, 1) := by decide +kernel
theorem dX4_changing_66 : decode cX4_changing 66 = .ok (.if_icmp .ne 10, 3) := by decide +kernel
theorem dX4_changing_69 : decode cX4_changing 69 = .ok (.aload_n 0, 1) := by decide +kernel
theorem dX4_changing_70 : decode cX4_changing 70 = .ok (.getfield 15, 3) := by decide +kernel
theorem dX4_changing_73 : decode cX4_changing 73 = .ok (.goto 4, 3) := by decide +kernel
theorem dX4_changing_76 : decode cX4_changing 76 = .ok (.lconst 0, 1) := by decide +kernel
theorem dX4_changing_77 : decode cX4_changing 77 = .ok (.lreturn, 1) := by decide +kernel
set_option maxRecDepth 20000 in
theorem ggX4_step_X4_changing : GoodIn wsX4_step wsX4_changing := goodIn_r _ [6, 1, 7, 8, 9, 10] (by decide +kernel) (by decide +kernel)
set_option maxRecDepth 20000 in
theorem gX4_step_X4_changing : GoodIn wsX4_step (wsV RX4 34 RX4 yX4_changing wsX4_changing) := goodIn_app (goodIn_of _ (by decide +kernel)) ggX4_step_X4_changing
theorem dX4_step_0 : decode cX4_step 0 = .ok (.aload_n 0, 1) := by decide +kernel
theorem dX4_step_1 : decode cX4_step 1 = .ok (.iload_n 1, 1) := by decide +kernel
theorem dX4_step_2 : decode cX4_step 2 = .ok (.iload_n 2, 1) := by decide +kernel
theorem dX4_step_3 : decode cX4_step 3 = .ok (.iload_n 3, 1) := by decide +kernel
theorem dX4_step_4 : decode cX4_step 4 = .ok (.invokevirtual 34, 3) := by decide +kernel
theorem dX4_step_7 : decode cX4_step 7 = .ok (.aload_n 0, 1) := by decide +kernel
theorem dX4_step_8 : decode cX4_step 8 = .ok (.getfield 9, 3) := by decide +kernel
theorem dX4_step_11 : decode cX4_step 11 = .ok (.iload_n 2, 1) := by decide +kernel
theorem dX4_step_12 : decode cX4_step 12 = .ok (.laload, 1) := by decide +kernel
theorem dX4_step_13 : decode cX4_step 13 = .ok (.aload_n 0, 1) := by decide +kernel
theorem dX4_step_14 : decode cX4_step 14 = .ok (.getfield 9, 3) := by decide +kernel
theorem dX4_step_17 : decode cX4_step 17 = .ok (.iload_n 3, 1) := by decide +kernel
theorem dX4_step_18 : decode cX4_step 18 = .ok (.laload, 1) := by decide +kernel
theorem dX4_step_19 : decode cX4_step 19 = .ok (.lxor, 1) := by decide +kernel
theorem dX4_step_20 : decode cX4_step 20 = .ok (.land, 1) := by decide +kernel
theorem dX4_step_21 : decode cX4_step 21 = .ok (.lstore 4, 2) := by decide +kernel
theorem dX4_step_23 : decode cX4_step 23 = .ok (.aload_n 0, 1) := by decide +kernel
theorem dX4_step_24 : decode cX4_step 24 = .ok (.getfield 9, 3) := by decide +kernel
theorem dX4_step_27 : decode cX4_step 27 = .ok (.iload_n 2, 1) := by decide +kernel
theorem dX4_step_28 : decode cX4_step 28 = .ok (.dup2, 1) := by decide +kernel
theorem dX4_step_29 : decode cX4_step 29 = .ok (.laload, 1) := by decide +kernel
theorem dX4_step_30 : decode cX4_step 30 = .ok (.lload 4, 2) := by decide +kernel
theorem dX4_step_32 : decode cX4_step 32 = .ok (.lxor, 1) := by decide +kernel
theorem dX4_step_33 : decode cX4_step 33 = .ok (.lastore, 1) := by decide +kernel
theorem dX4_step_34 : decode cX4_step 34 = .ok (.aload_n 0, 1) := by decide +kernel
theorem dX4_step_35 : decode cX4_step 35 = .ok (.getfield 9, 3) := by decide +kernel
theorem dX4_step_38 : decode cX4_step 38 = .ok (.iload_n 3, 1) := by decide +kernel
theorem dX4_step_39 : decode cX4_step 39 = .ok (.dup2, 1) := by decide +kernel
theorem dX4_step_40 : decode cX4_step 40 = .ok (.laload, 1) := by decide +kernel
theorem dX4_step_41 : decode cX4_step 41 = .ok (.lload 4, 2) := by decide +kernel
theorem dX4_step_43 : decode cX4_step 43 = .ok (.lxor, 1) := by decide +kernel
theorem dX4_step_44 : decode cX4_step 44 = .ok (.lastore, 1) := by decide +kernel
theorem dX4_step_45 : decode cX4_step 45 = .ok (.return_, 1) := by decide +kernel
set_option maxRecDepth 20000 in
theorem ggX4_pass_X3_actingKind : GoodIn wsX4_pass wsX3_actingKind := goodIn_r _ [6, 7, 8, 9, 5, 10, 11, 12, 13, 14, 15, 36, 37, 38] (by decide +kernel) (by decide +kernel)
set_option maxRecDepth 20000 in
theorem gX4_pass_X3_actingKind : GoodIn wsX4_pass (wsV RX4 44 RX3 yX3_actingKind wsX3_actingKind) := goodIn_app (goodIn_of _ (by decide +kernel)) ggX4_pass_X3_actingKind
set_option maxRecDepth 20000 in
theorem ggX4_pass_X3_low : GoodIn wsX4_pass wsX3_low := goodIn_r _ [19, 11, 36, 37, 38] (by decide +kernel) (by decide +kernel)
set_option maxRecDepth 20000 in
theorem gX4_pass_X3_low : GoodIn wsX4_pass (wsV RX4 48 RX3 yX3_low wsX3_low) := goodIn_app (goodIn_of _ (by decide +kernel)) ggX4_pass_X3_low
set_option maxRecDepth 20000 in
theorem ggX4_pass_X3_high : GoodIn wsX4_pass wsX3_high := goodIn_r _ [23, 11, 36, 37, 38] (by decide +kernel) (by decide +kernel)
set_option maxRecDepth 20000 in
theorem gX4_pass_X3_high : GoodIn wsX4_pass (wsV RX4 51 RX3 yX3_high wsX3_high) := goodIn_app (goodIn_of _ (by decide +kernel)) ggX4_pass_X3_high
set_option maxRecDepth 20000 in
theorem ggX4_pass_X4_step : GoodIn wsX4_pass wsX4_step := goodIn_r _ [28, 29, 30, 31, 32, 27, 33, 34, 35, 39, 40] (by decide +kernel) (by decide +kernel)
set_option maxRecDepth 20000 in
theorem gX4_pass_X4_step : GoodIn wsX4_pass (wsV RX4 54 RX4 yX4_step wsX4_step) := goodIn_app (goodIn_of _ (by decide +kernel)) ggX4_pass_X4_step
theorem dX4_pass_0 : decode cX4_pass 0 = .ok (.iconst 0, 1) := by decide +kernel
theorem dX4_pass_1 : decode cX4_pass 1 = .ok (.istore_n 3, 1) := by decide +kernel
theorem dX4_pass_2 : decode cX4_pass 2 = .ok (.iload_n 3, 1) := by decide +kernel
theorem dX4_pass_3 : decode cX4_pass 3 = .ok (.aload_n 1, 1) := by decide +kernel
theorem dX4_pass_4 : decode cX4_pass 4 = .ok (.getfield 38, 3) := by decide +kernel
theorem dX4_pass_7 : decode cX4_pass 7 = .ok (.if_icmp .ge 33, 3) := by decide +kernel
theorem dX4_pass_10 : decode cX4_pass 10 = .ok (.iload_n 3, 1) := by decide +kernel
theorem dX4_pass_11 : decode cX4_pass 11 = .ok (.iload_n 2, 1) := by decide +kernel
theorem dX4_pass_12 : decode cX4_pass 12 = .ok (.if_icmp .eq 22, 3) := by decide +kernel
theorem dX4_pass_15 : decode cX4_pass 15 = .ok (.aload_n 0, 1) := by decide +kernel
theorem dX4_pass_16 : decode cX4_pass 16 = .ok (.aload_n 1, 1) := by decide +kernel
theorem dX4_pass_17 : decode cX4_pass 17 = .ok (.iload_n 3, 1) := by decide +kernel
theorem dX4_pass_18 : decode cX4_pass 18 = .ok (.invokevirtual 44, 3) := by decide +kernel
theorem dX4_pass_21 : decode cX4_pass 21 = .ok (.aload_n 1, 1) := by decide +kernel
theorem dX4_pass_22 : decode cX4_pass 22 = .ok (.iload_n 3, 1) := by decide +kernel
theorem dX4_pass_23 : decode cX4_pass 23 = .ok (.invokevirtual 48, 3) := by decide +kernel
theorem dX4_pass_26 : decode cX4_pass 26 = .ok (.aload_n 1, 1) := by decide +kernel
theorem dX4_pass_27 : decode cX4_pass 27 = .ok (.iload_n 3, 1) := by decide +kernel
theorem dX4_pass_28 : decode cX4_pass 28 = .ok (.invokevirtual 51, 3) := by decide +kernel
theorem dX4_pass_31 : decode cX4_pass 31 = .ok (.invokevirtual 54, 3) := by decide +kernel
theorem dX4_pass_34 : decode cX4_pass 34 = .ok (.iinc 3 1, 3) := by decide +kernel
theorem dX4_pass_37 : decode cX4_pass 37 = .ok (.goto (-35), 3) := by decide +kernel
theorem dX4_pass_40 : decode cX4_pass 40 = .ok (.return_, 1) := by decide +kernel
theorem dX4_falling_0 : decode cX4_falling 0 = .ok (.lconst 0, 1) := by decide +kernel
theorem dX4_falling_1 : decode cX4_falling 1 = .ok (.lstore_n 3, 1) := by decide +kernel
theorem dX4_falling_2 : decode cX4_falling 2 = .ok (.iload_n 1, 1) := by decide +kernel
theorem dX4_falling_3 : decode cX4_falling 3 = .ok (.istore 5, 2) := by decide +kernel
theorem dX4_falling_5 : decode cX4_falling 5 = .ok (.iload 5, 2) := by decide +kernel
theorem dX4_falling_7 : decode cX4_falling 7 = .ok (.iconst 1, 1) := by decide +kernel
theorem dX4_falling_8 : decode cX4_falling 8 = .ok (.iadd, 1) := by decide +kernel
theorem dX4_falling_9 : decode cX4_falling 9 = .ok (.iload_n 2, 1) := by decide +kernel
theorem dX4_falling_10 : decode cX4_falling 10 = .ok (.if_icmp .ge 33, 3) := by decide +kernel
theorem dX4_falling_13 : decode cX4_falling 13 = .ok (.lload_n 3, 1) := by decide +kernel
theorem dX4_falling_14 : decode cX4_falling 14 = .ok (.aload_n 0, 1) := by decide +kernel
theorem dX4_falling_15 : decode cX4_falling 15 = .ok (.getfield 9, 3) := by decide +kernel
theorem dX4_falling_18 : decode cX4_falling 18 = .ok (.iload 5, 2) := by decide +kernel
theorem dX4_falling_20 : decode cX4_falling 20 = .ok (.laload, 1) := by decide +kernel
theorem dX4_falling_21 : decode cX4_falling 21 = .ok (.aload_n 0, 1) := by decide +kernel
theorem dX4_falling_22 : decode cX4_falling 22 = .ok (.getfield 9, 3) := by decide +kernel
theorem dX4_falling_25 : decode cX4_falling 25 = .ok (.iload 5, 2) := by decide +kernel
theorem dX4_falling_27 : decode cX4_falling 27 = .ok (.iconst 1, 1) := by decide +kernel
theorem dX4_falling_28 : decode cX4_falling 28 = .ok (.iadd, 1) := by decide +kernel
theorem dX4_falling_29 : decode cX4_falling 29 = .ok (.laload, 1) := by decide +kernel
theorem dX4_falling_30 : decode cX4_falling 30 = .ok (.ldc2_w 25, 3) := by decide +kernel
theorem dX4_falling_33 : decode cX4_falling 33 = .ok (.lxor, 1) := by decide +kernel
theorem dX4_falling_34 : decode cX4_falling 34 = .ok (.land, 1) := by decide +kernel
theorem dX4_falling_35 : decode cX4_falling 35 = .ok (.lor, 1) := by decide +kernel
theorem dX4_falling_36 : decode cX4_falling 36 = .ok (.lstore_n 3, 1) := by decide +kernel
theorem dX4_falling_37 : decode cX4_falling 37 = .ok (.iinc 5 1, 3) := by decide +kernel
theorem dX4_falling_40 : decode cX4_falling 40 = .ok (.goto (-35), 3) := by decide +kernel
theorem dX4_falling_43 : decode cX4_falling 43 = .ok (.lload_n 3, 1) := by decide +kernel
theorem dX4_falling_44 : decode cX4_falling 44 = .ok (.lreturn, 1) := by decide +kernel
theorem dX4_differing_0 : decode cX4_differing 0 = .ok (.lconst 0, 1) := by decide +kernel
theorem dX4_differing_1 : decode cX4_differing 1 = .ok (.lstore_n 3, 1) := by decide +kernel
theorem dX4_differing_2 : decode cX4_differing 2 = .ok (.iconst 0, 1) := by decide +kernel
theorem dX4_differing_3 : decode cX4_differing 3 = .ok (.istore 5, 2) := by decide +kernel
theorem dX4_differing_5 : decode cX4_differing 5 = .ok (.iload 5, 2) := by decide +kernel
theorem dX4_differing_7 : decode cX4_differing 7 = .ok (.iload_n 2, 1) := by decide +kernel
theorem dX4_differing_8 : decode cX4_differing 8 = .ok (.if_icmp .ge 27, 3) := by decide +kernel
theorem dX4_differing_11 : decode cX4_differing 11 = .ok (.lload_n 3, 1) := by decide +kernel
theorem dX4_differing_12 : decode cX4_differing 12 = .ok (.aload_n 0, 1) := by decide +kernel
theorem dX4_differing_13 : decode cX4_differing 13 = .ok (.getfield 9, 3) := by decide +kernel
theorem dX4_differing_16 : decode cX4_differing 16 = .ok (.iload 5, 2) := by decide +kernel
theorem dX4_differing_18 : decode cX4_differing 18 = .ok (.laload, 1) := by decide +kernel
theorem dX4_differing_19 : decode cX4_differing 19 = .ok (.aload_n 1, 1) := by decide +kernel
theorem dX4_differing_20 : decode cX4_differing 20 = .ok (.getfield 9, 3) := by decide +kernel
theorem dX4_differing_23 : decode cX4_differing 23 = .ok (.iload 5, 2) := by decide +kernel
theorem dX4_differing_25 : decode cX4_differing 25 = .ok (.laload, 1) := by decide +kernel
theorem dX4_differing_26 : decode cX4_differing 26 = .ok (.lxor, 1) := by decide +kernel
theorem dX4_differing_27 : decode cX4_differing 27 = .ok (.lor, 1) := by decide +kernel
theorem dX4_differing_28 : decode cX4_differing 28 = .ok (.lstore_n 3, 1) := by decide +kernel
theorem dX4_differing_29 : decode cX4_differing 29 = .ok (.iinc 5 1, 3) := by decide +kernel
theorem dX4_differing_32 : decode cX4_differing 32 = .ok (.goto (-27), 3) := by decide +kernel
theorem dX4_differing_35 : decode cX4_differing 35 = .ok (.lload_n 3, 1) := by decide +kernel
theorem dX4_differing_36 : decode cX4_differing 36 = .ok (.lreturn, 1) := by decide +kernel
theorem dX4_numberOf_0 : decode cX4_numberOf 0 = .ok (.iconst 0, 1) := by decide +kernel
theorem dX4_numberOf_1 : decode cX4_numberOf 1 = .ok (.istore_n 3, 1) := by decide +kernel
theorem dX4_numberOf_2 : decode cX4_numberOf 2 = .ok (.iconst 0, 1) := by decide +kernel
theorem dX4_numberOf_3 : decode cX4_numberOf 3 = .ok (.istore 4, 2) := by decide +kernel
theorem dX4_numberOf_5 : decode cX4_numberOf 5 = .ok (.iload 4, 2) := by decide +kernel
theorem dX4_numberOf_7 : decode cX4_numberOf 7 = .ok (.iload_n 2, 1) := by decide +kernel
theorem dX4_numberOf_8 : decode cX4_numberOf 8 = .ok (.if_icmp .ge 27, 3) := by decide +kernel
theorem dX4_numberOf_11 : decode cX4_numberOf 11 = .ok (.iload_n 3, 1) := by decide +kernel
theorem dX4_numberOf_12 : decode cX4_numberOf 12 = .ok (.aload_n 0, 1) := by decide +kernel
theorem dX4_numberOf_13 : decode cX4_numberOf 13 = .ok (.getfield 9, 3) := by decide +kernel
theorem dX4_numberOf_16 : decode cX4_numberOf 16 = .ok (.iload 4, 2) := by decide +kernel
theorem dX4_numberOf_18 : decode cX4_numberOf 18 = .ok (.laload, 1) := by decide +kernel
theorem dX4_numberOf_19 : decode cX4_numberOf 19 = .ok (.iload_n 1, 1) := by decide +kernel
theorem dX4_numberOf_20 : decode cX4_numberOf 20 = .ok (.lushr, 1) := by decide +kernel
theorem dX4_numberOf_21 : decode cX4_numberOf 21 = .ok (.lconst 1, 1) := by decide +kernel
theorem dX4_numberOf_22 : decode cX4_numberOf 22 = .ok (.land, 1) := by decide +kernel
theorem dX4_numberOf_23 : decode cX4_numberOf 23 = .ok (.l2i, 1) := by decide +kernel
theorem dX4_numberOf_24 : decode cX4_numberOf 24 = .ok (.iload 4, 2) := by decide +kernel
theorem dX4_numberOf_26 : decode cX4_numberOf 26 = .ok (.ishl, 1) := by decide +kernel
theorem dX4_numberOf_27 : decode cX4_numberOf 27 = .ok (.ior, 1) := by decide +kernel
theorem dX4_numberOf_28 : decode cX4_numberOf 28 = .ok (.istore_n 3, 1) := by decide +kernel
theorem dX4_numberOf_29 : decode cX4_numberOf 29 = .ok (.iinc 4 1, 3) := by decide +kernel
theorem dX4_numberOf_32 : decode cX4_numberOf 32 = .ok (.goto (-27), 3) := by decide +kernel
theorem dX4_numberOf_35 : decode cX4_numberOf 35 = .ok (.iload_n 3, 1) := by decide +kernel
theorem dX4_numberOf_36 : decode cX4_numberOf 36 = .ok (.ireturn, 1) := by decide +kernel
theorem dX4_packed_0 : decode cX4_packed 0 = .ok (.lconst 0, 1) := by decide +kernel
theorem dX4_packed_1 : decode cX4_packed 1 = .ok (.lstore_n 2, 1) := by decide +kernel
theorem dX4_packed_2 : decode cX4_packed 2 = .ok (.iconst 0, 1) := by decide +kernel
theorem dX4_packed_3 : decode cX4_packed 3 = .ok (.istore 4, 2) := by decide +kernel
theorem dX4_packed_5 : decode cX4_packed 5 = .ok (.iload 4, 2) := by decide +kernel
theorem dX4_packed_7 : decode cX4_packed 7 = .ok (.iload_n 1, 1) := by decide +kernel
theorem dX4_packed_8 : decode cX4_packed 8 = .ok (.if_icmp .ge 31, 3) := by decide +kernel
theorem dX4_packed_11 : decode cX4_packed 11 = .ok (.iload 4, 2) := by decide +kernel
theorem dX4_packed_13 : decode cX4_packed 13 = .ok (.iconst 4, 1) := by decide +kernel
theorem dX4_packed_14 : decode cX4_packed 14 = .ok (.if_icmp .ge 25, 3) := by decide +kernel
theorem dX4_packed_17 : decode cX4_packed 17 = .ok (.lload_n 2, 1) := by decide +kernel
theorem dX4_packed_18 : decode cX4_packed 18 = .ok (.aload_n 0, 1) := by decide +kernel
theorem dX4_packed_19 : decode cX4_packed 19 = .ok (.getfield 9, 3) := by decide +kernel
theorem dX4_packed_22 : decode cX4_packed 22 = .ok (.iload 4, 2) := by decide +kernel
theorem dX4_packed_24 : decode cX4_packed 24 = .ok (.laload, 1) := by decide +kernel
theorem dX4_packed_25 : decode cX4_packed 25 = .ok (.iload 4, 2) := by decide +kernel
theorem dX4_packed_27 : decode cX4_packed 27 = .ok (.bipush 16, 2) := by decide +kernel
theorem dX4_packed_29 : decode cX4_packed 29 = .ok (.imul, 1) := by decide +kernel
theorem dX4_packed_30 : decode cX4_packed 30 = .ok (.lshl, 1) := by decide +kernel
theorem dX4_packed_31 : decode cX4_packed 31 = .ok (.lor, 1) := by decide +kernel
theorem dX4_packed_32 : decode cX4_packed 32 = .ok (.lstore_n 2, 1) := by decide +kernel
theorem dX4_packed_33 : decode cX4_packed 33 = .ok (.iinc 4 1, 3) := by decide +kernel
theorem dX4_packed_36 : decode cX4_packed 36 = .ok (.goto (-31), 3) := by decide +kernel
theorem dX4_packed_39 : decode cX4_packed 39 = .ok (.lload_n 2, 1) := by decide +kernel
theorem dX4_packed_40 : decode cX4_packed 40 = .ok (.lreturn, 1) := by decide +kernel
set_option maxRecDepth 20000 in
theorem ggX5_init_X3_init : GoodIn wsX5_init wsX3_init := goodIn_r _ [32, 33, 2, 3, 34, 35, 24, 36, 68, 69, 70] (by decide +kernel) (by decide +kernel)
set_option maxRecDepth 20000 in
theorem gX5_init_X3_init_n9 : GoodIn wsX5_init (wsX3_init) := ggX5_init_X3_init
set_option maxRecDepth 20000 in
theorem ggX5_init_X2_init : GoodIn wsX5_init wsX2_init := goodIn_r _ [39, 40, 2, 3, 41, 42, 43, 44, 5, 6, 31, 32, 33, 34, 35, 24, 36, 82, 83, 84, 68, 69, 70] (by decide +kernel) (by decide +kernel)
set_option maxRecDepth 20000 in
theorem gX5_init_X2_init : GoodIn wsX5_init (wsX2_init) := ggX5_init_X2_init
set_option maxRecDepth 20000 in
theorem ggX5_init_X4_init : GoodIn wsX5_init wsX4_init := goodIn_r _ [46, 47, 2, 3, 48, 49, 50, 85, 86] (by decide +kernel) (by decide +kernel)
set_option maxRecDepth 20000 in
theorem gX5_init_X4_init_n35 : GoodIn wsX5_init (wsX4_init) := ggX5_init_X4_init
set_option maxRecDepth 20000 in
theorem ggX5_init_X0_init : GoodIn wsX5_init wsX0_init := goodIn_r _ [52, 53, 2, 3, 24, 54, 55, 56, 57, 87, 88, 89, 90] (by decide +kernel) (by decide +kernel)
set_option maxRecDepth 20000 in
theorem gX5_init_X0_init_n45 : GoodIn wsX5_init (wsX0_init) := ggX5_init_X0_init
set_option maxRecDepth 20000 in
theorem ggX5_init_X3_clear : GoodIn wsX5_init wsX3_clear := goodIn_r _ [61, 34, 35, 68, 69, 70] (by decide +kernel) (by decide +kernel)
set_option maxRecDepth 20000 in
theorem gX5_init_X3_clear : GoodIn wsX5_init (wsV RX5 64 RX3 yX3_clear wsX3_clear) := goodIn_app (goodIn_of _ (by decide +kernel)) ggX5_init_X3_clear
set_option maxRecDepth 20000 in
theorem ggX5_init_X1_init : GoodIn wsX5_init wsX1_init := goodIn_r _ [63, 64, 2, 3, 65, 66, 48, 67, 91, 92, 93] (by decide +kernel) (by decide +kernel)
set_option maxRecDepth 20000 in
theorem gX5_init_X1_init_n68 : GoodIn wsX5_init (wsX1_init) := ggX5_init_X1_init
theorem dX5_init_0 : decode cX5_init 0 = .ok (.aload_n 0, 1) := by decide +kernel
theorem dX5_init_1 : decode cX5_init 1 = .ok (.invokespecial 1, 3) := by decide +kernel
theorem dX5_init_4 : decode cX5_init 4 = .ok (.aload_n 0, 1) := by decide +kernel
theorem dX5_init_5 : decode cX5_init 5 = .ok (.new 7, 3) := by decide +kernel
theorem dX5_init_8 : decode cX5_init 8 = .ok (.dup, 1) := by decide +kernel
theorem dX5_init_9 : decode cX5_init 9 = .ok (.invokespecial 9, 3) := by decide +kernel
theorem dX5_init_12 : decode cX5_init 12 = .ok (.putfield 10, 3) := by decide +kernel
theorem dX5_init_15 : decode cX5_init 15 = .ok (.aload_n 0, 1) := by decide +kernel
theorem dX5_init_16 : decode cX5_init 16 = .ok (.iconst 4, 1) := by decide +kernel
theorem dX5_init_17 : decode cX5_init 17 = .ok (.anewarray 7, 3) := by decide +kernel
theorem dX5_init_20 : decode cX5_init 20 = .ok (.putfield 16, 3) := by decide +kernel
theorem dX5_init_23 : decode cX5_init 23 = .ok (.aload_n 0, 1) := by decide +kernel
theorem dX5_init_24 : decode cX5_init 24 = .ok (.new 20, 3) := by decide +kernel
theorem dX5_init_27 : decode cX5_init 27 = .ok (.dup, 1) := by decide +kernel
theorem dX5_init_28 : decode cX5_init 28 = .ok (.invokespecial 22, 3) := by decide +kernel
theorem dX5_init_31 : decode cX5_init 31 = .ok (.putfield 23, 3) := by decide +kernel
theorem dX5_init_34 : decode cX5_init 34 = .ok (.aload_n 0, 1) := by decide +kernel
theorem dX5_init_35 : decode cX5_init 35 = .ok (.bipush 6, 2) := by decide +kernel
theorem dX5_init_37 : decode cX5_init 37 = .ok (.anewarray 27, 3) := by decide +kernel
theorem dX5_init_40 : decode cX5_init 40 = .ok (.putfield 29, 3) := by decide +kernel
theorem dX5_init_43 : decode cX5_init 43 = .ok (.aload_n 0, 1) := by decide +kernel
theorem dX5_init_44 : decode cX5_init 44 = .ok (.new 33, 3) := by decide +kernel
theorem dX5_init_47 : decode cX5_init 47 = .ok (.dup, 1) := by decide +kernel
theorem dX5_init_48 : decode cX5_init 48 = .ok (.invokespecial 35, 3) := by decide +kernel
theorem dX5_init_51 : decode cX5_init 51 = .ok (.putfield 36, 3) := by decide +kernel
theorem dX5_init_54 : decode cX5_init 54 = .ok (.aload_n 0, 1) := by decide +kernel
theorem dX5_init_55 : decode cX5_init 55 = .ok (.new 33, 3) := by decide +kernel
theorem dX5_init_58 : decode cX5_init 58 = .ok (.dup, 1) := by decide +kernel
theorem dX5_init_59 : decode cX5_init 59 = .ok (.invokespecial 35, 3) := by decide +kernel
theorem dX5_init_62 : decode cX5_init 62 = .ok (.putfield 40, 3) := by decide +kernel
theorem dX5_init_65 : decode cX5_init 65 = .ok (.aload_n 0, 1) := by decide +kernel
theorem dX5_init_66 : decode cX5_init 66 = .ok (.new 43, 3) := by decide +kernel
theorem dX5_init_69 : decode cX5_init 69 = .ok (.dup, 1) := by decide +kernel
theorem dX5_init_70 : decode cX5_init 70 = .ok (.invokespecial 45, 3) := by decide +kernel
theorem dX5_init_73 : decode cX5_init 73 = .ok (.putfield 46, 3) := by decide +kernel
theorem dX5_init_76 : decode cX5_init 76 = .ok (.aload_n 0, 1) := by decide +kernel
theorem dX5_init_77 : decode cX5_init 77 = .ok (.bipush 8, 2) := by decide +kernel
theorem dX5_init_79 : decode cX5_init 79 = .ok (.newarray .int, 2) := by decide +kernel
theorem dX5_init_81 : decode cX5_init 81 = .ok (.putfield 50, 3) := by decide +kernel
theorem dX5_init_84 : decode cX5_init 84 = .ok (.aload_n 0, 1) := by decide +kernel
theorem dX5_init_85 : decode cX5_init 85 = .ok (.bipush 80, 2) := by decide +kernel
theorem dX5_init_87 : decode cX5_init 87 = .ok (.newarray .int, 2) := by decide +kernel
theorem dX5_init_89 : decode cX5_init 89 = .ok (.putfield 54, 3) := by decide +kernel
theorem dX5_init_92 : decode cX5_init 92 = .ok (.aload_n 0, 1) := by decide +kernel
theorem dX5_init_93 : decode cX5_init 93 = .ok (.iconst 0, 1) := by decide +kernel
theorem dX5_init_94 : decode cX5_init 94 = .ok (.putfield 57, 3) := by decide +kernel
theorem dX5_init_97 : decode cX5_init 97 = .ok (.aload_n 0, 1) := by decide +kernel
theorem dX5_init_98 : decode cX5_init 98 = .ok (.iconst 0, 1) := by decide +kernel
theorem dX5_init_99 : decode cX5_init 99 = .ok (.putfield 61, 3) := by decide +kernel
theorem dX5_init_102 : decode cX5_init 102 = .ok (.aload_n 0, 1) := by decide +kernel
theorem dX5_init_103 : decode cX5_init 103 = .ok (.getfield 10, 3) := by decide +kernel
theorem dX5_init_106 : decode cX5_init 106 = .ok (.iconst 2, 1) := by decide +kernel
theorem dX5_init_107 : decode cX5_init 107 = .ok (.invokevirtual 64, 3) := by decide +kernel
theorem dX5_init_110 : decode cX5_init 110 = .ok (.iconst 0, 1) := by decide +kernel
theorem dX5_init_111 : decode cX5_init 111 = .ok (.istore_n 1, 1) := by decide +kernel
theorem dX5_init_112 : decode cX5_init 112 = .ok (.iload_n 1, 1) := by decide +kernel
theorem dX5_init_113 : decode cX5_init 113 = .ok (.iconst 4, 1) := by decide +kernel
theorem dX5_init_114 : decode cX5_init 114 = .ok (.if_icmp .ge 22, 3) := by decide +kernel
theorem dX5_init_117 : decode cX5_init 117 = .ok (.aload_n 0, 1) := by decide +kernel
theorem dX5_init_118 : decode cX5_init 118 = .ok (.getfield 16, 3) := by decide +kernel
theorem dX5_init_121 : decode cX5_init 121 = .ok (.iload_n 1, 1) := by decide +kernel
theorem dX5_init_122 : decode cX5_init 122 = .ok (.new 7, 3) := by decide +kernel
theorem dX5_init_125 : decode cX5_init 125 = .ok (.dup, 1) := by decide +kernel
theorem dX5_init_126 : decode cX5_init 126 = .ok (.invokespecial 9, 3) := by decide +kernel
theorem dX5_init_129 : decode cX5_init 129 = .ok (.aastore, 1) := by decide +kernel
theorem dX5_init_130 : decode cX5_init 130 = .ok (.iinc 1 1, 3) := by decide +kernel
theorem dX5_init_133 : decode cX5_init 133 = .ok (.goto (-21), 3) := by decide +kernel
theorem dX5_init_136 : decode cX5_init 136 = .ok (.iconst 0, 1) := by decide +kernel
theorem dX5_init_137 : decode cX5_init 137 = .ok (.istore_n 1, 1) := by decide +kernel
theorem dX5_init_138 : decode cX5_init 138 = .ok (.iload_n 1, 1) := by decide +kernel
theorem dX5_init_139 : decode cX5_init 139 = .ok (.bipush 6, 2) := by decide +kernel
theorem dX5_init_141 : decode cX5_init 141 = .ok (.if_icmp .ge 22, 3) := by decide +kernel
theorem dX5_init_144 : decode cX5_init 144 = .ok (.aload_n 0, 1) := by decide +kernel
theorem dX5_init_145 : decode cX5_init 145 = .ok (.getfield 29, 3) := by decide +kernel
theorem dX5_init_148 : decode cX5_init 148 = .ok (.iload_n 1, 1) := by decide +kernel
theorem dX5_init_149 : decode cX5_init 149 = .ok (.new 27, 3) := by decide +kernel
theorem dX5_init_152 : decode cX5_init 152 = .ok (.dup, 1) := by decide +kernel
theorem dX5_init_153 : decode cX5_init 153 = .ok (.invokespecial 68, 3) := by decide +kernel
theorem dX5_init_156 : decode cX5_init 156 = .ok (.aastore, 1) := by decide +kernel
theorem dX5_init_157 : decode cX5_init 157 = .ok (.iinc 1 1, 3) := by decide +kernel
theorem dX5_init_160 : decode cX5_init 160 = .ok (.goto (-22), 3) := by decide +kernel
theorem dX5_init_163 : decode cX5_init 163 = .ok (.return_, 1) := by decide +kernel
set_option maxRecDepth 20000 in
theorem ggX5_lanes_X5_finding : GoodIn wsX5_lanes wsX5_finding := goodIn_r _ [8, 9, 38, 39, 40, 41, 42, 43, 44, 45, 46, 47, 48] (by decide +kernel) (by decide +kernel)
set_option maxRecDepth 20000 in
theorem gX5_lanes_X5_finding : GoodIn wsX5_lanes (wsV RX5 69 RX5 yX5_finding wsX5_finding) := goodIn_app (goodIn_of _ (by decide +kernel)) ggX5_lanes_X5_finding
set_option maxRecDepth 20000 in
theorem ggX5_lanes_X2_remember : GoodIn wsX5_lanes wsX2_remember := goodIn_r _ [14, 15, 16, 17, 18, 19, 20, 21, 22, 23, 24, 25, 26, 27, 28, 29, 30, 31, 32, 33, 52, 53, 54, 49, 50, 51] (by decide +kernel) (by decide +kernel)
set_option maxRecDepth 20000 in
theorem gX5_lanes_X2_remember : GoodIn wsX5_lanes (wsV RX5 73 RX2 yX2_remember wsX2_remember) := goodIn_app (goodIn_of _ (by decide +kernel)) ggX5_lanes_X2_remember
set_option maxRecDepth 20000 in
theorem ggX5_lanes_X3_clear : GoodIn wsX5_lanes wsX3_clear := goodIn_r _ [37, 27, 28, 49, 50, 51] (by decide +kernel) (by decide +kernel)
set_option maxRecDepth 20000 in
theorem gX5_lanes_X3_clear : GoodIn wsX5_lanes (wsV RX5 64 RX3 yX3_clear wsX3_clear) := goodIn_app (goodIn_of _ (by decide +kernel)) ggX5_lanes_X3_clear
theorem dX5_lanes_0 : decode cX5_lanes 0 = .ok (.iload_n 1, 1) := by decide +kernel
theorem dX5_lanes_1 : decode cX5_lanes 1 = .ok (.iconst 2, 1) := by decide +kernel
theorem dX5_lanes_2 : decode cX5_lanes 2 = .ok (.if_icmp .lt 9, 3) := by decide +kernel
theorem dX5_lanes_5 : decode cX5_lanes 5 = .ok (.iload_n 1, 1) := by decide +kernel
theorem dX5_lanes_6 : decode cX5_lanes 6 = .ok (.bipush 8, 2) := by decide +kernel
theorem dX5_lanes_8 : decode cX5_lanes 8 = .ok (.if_icmp .le 9, 3) := by decide +kernel
theorem dX5_lanes_11 : decode cX5_lanes 11 = .ok (.aload_n 0, 1) := by decide +kernel
theorem dX5_lanes_12 : decode cX5_lanes 12 = .ok (.iconst (-1), 1) := by decide +kernel
theorem dX5_lanes_13 : decode cX5_lanes 13 = .ok (.invokevirtual 69, 3) := by decide +kernel
theorem dX5_lanes_16 : decode cX5_lanes 16 = .ok (.ireturn, 1) := by decide +kernel
theorem dX5_lanes_17 : decode cX5_lanes 17 = .ok (.aload_n 0, 1) := by decide +kernel
theorem dX5_lanes_18 : decode cX5_lanes 18 = .ok (.getfield 23, 3) := by decide +kernel
theorem dX5_lanes_21 : decode cX5_lanes 21 = .ok (.aload_n 0, 1) := by decide +kernel
theorem dX5_lanes_22 : decode cX5_lanes 22 = .ok (.getfield 10, 3) := by decide +kernel
theorem dX5_lanes_25 : decode cX5_lanes 25 = .ok (.invokevirtual 73, 3) := by decide +kernel
theorem dX5_lanes_28 : decode cX5_lanes 28 = .ok (.aload_n 0, 1) := by decide +kernel
theorem dX5_lanes_29 : decode cX5_lanes 29 = .ok (.getfield 10, 3) := by decide +kernel
theorem dX5_lanes_32 : decode cX5_lanes 32 = .ok (.getfield 77, 3) := by decide +kernel
theorem dX5_lanes_35 : decode cX5_lanes 35 = .ok (.istore_n 2, 1) := by decide +kernel
theorem dX5_lanes_36 : decode cX5_lanes 36 = .ok (.aload_n 0, 1) := by decide +kernel
theorem dX5_lanes_37 : decode cX5_lanes 37 = .ok (.getfield 10, 3) := by decide +kernel
theorem dX5_lanes_40 : decode cX5_lanes 40 = .ok (.iload_n 1, 1) := by decide +kernel
theorem dX5_lanes_41 : decode cX5_lanes 41 = .ok (.invokevirtual 64, 3) := by decide +kernel
theorem dX5_lanes_44 : decode cX5_lanes 44 = .ok (.iload_n 2, 1) := by decide +kernel
theorem dX5_lanes_45 : decode cX5_lanes 45 = .ok (.ireturn, 1) := by decide +kernel
set_option maxRecDepth 20000 in
theorem ggX5_comparer_X5_isKind : GoodIn wsX5_comparer wsX5_isKind := goodIn_r _ [7] (by decide +kernel) (by decide +kernel)
set_option maxRecDepth 20000 in
theorem gX5_comparer_X5_isKind : GoodIn wsX5_comparer (va_wsS RX5 80 yX5_isKind wsX5_isKind) := goodIn_app (goodIn_of _ (by decide +kernel)) ggX5_comparer_X5_isKind
set_option maxRecDepth 20000 in
theorem ggX5_comparer_X3_hasLane : GoodIn wsX5_comparer wsX3_hasLane := goodIn_r _ [12, 13, 60, 61, 62] (by decide +kernel) (by decide +kernel)
set_option maxRecDepth 20000 in
theorem gX5_comparer_X3_hasLane : GoodIn wsX5_comparer (wsV RX5 84 RX3 yX3_hasLane wsX3_hasLane) := goodIn_app (goodIn_of _ (by decide +kernel)) ggX5_comparer_X3_hasLane
set_option maxRecDepth 20000 in
theorem ggX5_comparer_X5_finding : GoodIn wsX5_comparer wsX5_finding := goodIn_r _ [17, 18, 49, 50, 51, 52, 53, 54, 55, 56, 57, 58, 59] (by decide +kernel) (by decide +kernel)
set_option maxRecDepth 20000 in
theorem gX5_comparer_X5_finding : GoodIn wsX5_comparer (wsV RX5 69 RX5 yX5_finding wsX5_finding) := goodIn_app (goodIn_of _ (by decide +kernel)) ggX5_comparer_X5_finding
set_option maxRecDepth 20000 in
theorem ggX5_comparer_X2_remember : GoodIn wsX5_comparer wsX2_remember := goodIn_r _ [23, 24, 25, 26, 27, 28, 29, 30, 31, 32, 33, 11, 34, 13, 35, 36, 37, 38, 39, 40, 63, 64, 65, 60, 61, 62] (by decide +kernel) (by decide +kernel)
set_option maxRecDepth 20000 in
theorem gX5_comparer_X2_remember : GoodIn wsX5_comparer (wsV RX5 73 RX2 yX2_remember wsX2_remember) := goodIn_app (goodIn_of _ (by decide +kernel)) ggX5_comparer_X2_remember
set_option maxRecDepth 20000 in
theorem ggX5_comparer_X3_add : GoodIn wsX5_comparer wsX3_add := goodIn_r _ [44, 35, 45, 46, 47, 11, 48, 36, 60, 61, 62] (by decide +kernel) (by decide +kernel)
set_option maxRecDepth 20000 in
theorem gX5_comparer_X3_add : GoodIn wsX5_comparer (wsV RX5 87 RX3 yX3_add wsX3_add) := goodIn_app (goodIn_of _ (by decide +kernel)) ggX5_comparer_X3_add
theorem dX5_comparer_0 : decode cX5_comparer 0 = .ok (.iload_n 1, 1) := by decide +kernel
theorem dX5_comparer_1 : decode cX5_comparer 1 = .ok (.invokestatic 80, 3) := by decide +kernel
theorem dX5_comparer_4 : decode cX5_comparer 4 = .ok (.ifCond .eq 25, 3) := by decide +kernel
theorem dX5_comparer_7 : decode cX5_comparer 7 = .ok (.aload_n 0, 1) := by decide +kernel
theorem dX5_comparer_8 : decode cX5_comparer 8 = .ok (.getfield 10, 3) := by decide +kernel
theorem dX5_comparer_11 : decode cX5_comparer 11 = .ok (.iload_n 2, 1) := by decide +kernel
theorem dX5_comparer_12 : decode cX5_comparer 12 = .ok (.invokevirtual 84, 3) := by decide +kernel
theorem dX5_comparer_15 : decode cX5_comparer 15 = .ok (.ifCond .eq 14, 3) := by decide +kernel
theorem dX5_comparer_18 : decode cX5_comparer 18 = .ok (.aload_n 0, 1) := by decide +kernel
theorem dX5_comparer_19 : decode cX5_comparer 19 = .ok (.getfield 10, 3) := by decide +kernel
theorem dX5_comparer_22 : decode cX5_comparer 22 = .ok (.iload_n 3, 1) := by decide +kernel
theorem dX5_comparer_23 : decode cX5_comparer 23 = .ok (.invokevirtual 84, 3) := by decide +kernel
theorem dX5_comparer_26 : decode cX5_comparer 26 = .ok (.ifCond .ne 9, 3) := by decide +kernel
theorem dX5_comparer_29 : decode cX5_comparer 29 = .ok (.aload_n 0, 1) := by decide +kernel
theorem dX5_comparer_30 : decode cX5_comparer 30 = .ok (.iconst (-1), 1) := by decide +kernel
theorem dX5_comparer_31 : decode cX5_comparer 31 = .ok (.invokevirtual 69, 3) := by decide +kernel
theorem dX5_comparer_34 : decode cX5_comparer 34 = .ok (.ireturn, 1) := by decide +kernel
theorem dX5_comparer_35 : decode cX5_comparer 35 = .ok (.iload_n 2, 1) := by decide +kernel
theorem dX5_comparer_36 : decode cX5_comparer 36 = .ok (.iload_n 3, 1) := by decide +kernel
theorem dX5_comparer_37 : decode cX5_comparer 37 = .ok (.if_icmp .lt 10, 3) := by decide +kernel
theorem dX5_comparer_40 : decode cX5_comparer 40 = .ok (.aload_n 0, 1) := by decide +kernel
end
section
theorem dX5_comparer_41 : decode cX5_comparer 41 = .ok (.bipush (-3), 2) := by decide +kernel
theorem dX5_comparer_43 : decode cX5_comparer 43 = .ok (.invokevirtual 69, 3) := by decide +kernel
theorem dX5_comparer_46 : decode cX5_comparer 46 = .ok (.ireturn, 1) := by decide +kernel
theorem dX5_comparer_47 : decode cX5_comparer 47 = .ok (.aload_n 0, 1) := by decide +kernel
theorem dX5_comparer_48 : decode cX5_comparer 48 = .ok (.getfield 10, 3) := by decide +kernel
theorem dX5_comparer_51 : decode cX5_comparer 51 = .ok (.getfield 77, 3) := by decide +kernel
theorem dX5_comparer_54 : decode cX5_comparer 54 = .ok (.bipush 40, 2) := by decide +kernel
theorem dX5_comparer_56 : decode cX5_comparer 56 = .ok (.if_icmp .lt 10, 3) := by decide +kernel
theorem dX5_comparer_59 : decode cX5_comparer 59 = .ok (.aload_n 0, 1) := by decide +kernel
theorem dX5_comparer_60 : decode cX5_comparer 60 = .ok (.bipush (-5), 2) := by decide +kernel
theorem dX5_comparer_62 : decode cX5_comparer 62 = .ok (.invokevirtual 69, 3) := by decide +kernel
theorem dX5_comparer_65 : decode cX5_comparer 65 = .ok (.ireturn, 1) := by decide +kernel
theorem dX5_comparer_66 : decode cX5_comparer 66 = .ok (.aload_n 0, 1) := by decide +kernel
theorem dX5_comparer_67 : decode cX5_comparer 67 = .ok (.getfield 23, 3) := by decide +kernel
theorem dX5_comparer_70 : decode cX5_comparer 70 = .ok (.aload_n 0, 1) := by decide +kernel
theorem dX5_comparer_71 : decode cX5_comparer 71 = .ok (.getfield 10, 3) := by decide +kernel
theorem dX5_comparer_74 : decode cX5_comparer 74 = .ok (.invokevirtual 73, 3) := by decide +kernel
theorem dX5_comparer_77 : decode cX5_comparer 77 = .ok (.aload_n 0, 1) := by decide +kernel
theorem dX5_comparer_78 : decode cX5_comparer 78 = .ok (.getfield 10, 3) := by decide +kernel
theorem dX5_comparer_81 : decode cX5_comparer 81 = .ok (.iload_n 1, 1) := by decide +kernel
theorem dX5_comparer_82 : decode cX5_comparer 82 = .ok (.iload_n 2, 1) := by decide +kernel
theorem dX5_comparer_83 : decode cX5_comparer 83 = .ok (.iload_n 3, 1) := by decide +kernel
theorem dX5_comparer_84 : decode cX5_comparer 84 = .ok (.invokevirtual 87, 3) := by decide +kernel
theorem dX5_comparer_87 : decode cX5_comparer 87 = .ok (.aload_n 0, 1) := by decide +kernel
theorem dX5_comparer_88 : decode cX5_comparer 88 = .ok (.getfield 10, 3) := by decide +kernel
theorem dX5_comparer_91 : decode cX5_comparer 91 = .ok (.getfield 77, 3) := by decide +kernel
theorem dX5_comparer_94 : decode cX5_comparer 94 = .ok (.ireturn, 1) := by decide +kernel
set_option maxRecDepth 20000 in
theorem ggX5_cut_X5_finding : GoodIn wsX5_cut wsX5_finding := goodIn_r _ [8, 9, 34, 35, 36, 37, 38, 39, 40, 41, 42, 43, 44] (by decide +kernel) (by decide +kernel)
set_option maxRecDepth 20000 in
theorem gX5_cut_X5_finding : GoodIn wsX5_cut (wsV RX5 69 RX5 yX5_finding wsX5_finding) := goodIn_app (goodIn_of _ (by decide +kernel)) ggX5_cut_X5_finding
set_option maxRecDepth 20000 in
theorem ggX5_cut_X2_remember : GoodIn wsX5_cut wsX2_remember := goodIn_r _ [14, 15, 16, 17, 18, 19, 20, 21, 22, 23, 24, 25, 26, 27, 28, 29, 30, 31, 32, 33, 48, 49, 50, 45, 46, 47] (by decide +kernel) (by decide +kernel)
set_option maxRecDepth 20000 in
theorem gX5_cut_X2_remember : GoodIn wsX5_cut (wsV RX5 73 RX2 yX2_remember wsX2_remember) := goodIn_app (goodIn_of _ (by decide +kernel)) ggX5_cut_X2_remember
theorem dX5_cut_0 : decode cX5_cut 0 = .ok (.iload_n 1, 1) := by decide +kernel
theorem dX5_cut_1 : decode cX5_cut 1 = .ok (.ifCond .lt 14, 3) := by decide +kernel
theorem dX5_cut_4 : decode cX5_cut 4 = .ok (.iload_n 1, 1) := by decide +kernel
theorem dX5_cut_5 : decode cX5_cut 5 = .ok (.aload_n 0, 1) := by decide +kernel
theorem dX5_cut_6 : decode cX5_cut 6 = .ok (.getfield 10, 3) := by decide +kernel
theorem dX5_cut_9 : decode cX5_cut 9 = .ok (.getfield 77, 3) := by decide +kernel
theorem dX5_cut_12 : decode cX5_cut 12 = .ok (.if_icmp .le 9, 3) := by decide +kernel
theorem dX5_cut_15 : decode cX5_cut 15 = .ok (.aload_n 0, 1) := by decide +kernel
theorem dX5_cut_16 : decode cX5_cut 16 = .ok (.iconst (-1), 1) := by decide +kernel
theorem dX5_cut_17 : decode cX5_cut 17 = .ok (.invokevirtual 69, 3) := by decide +kernel
theorem dX5_cut_20 : decode cX5_cut 20 = .ok (.ireturn, 1) := by decide +kernel
theorem dX5_cut_21 : decode cX5_cut 21 = .ok (.aload_n 0, 1) := by decide +kernel
theorem dX5_cut_22 : decode cX5_cut 22 = .ok (.getfield 23, 3) := by decide +kernel
theorem dX5_cut_25 : decode cX5_cut 25 = .ok (.aload_n 0, 1) := by decide +kernel
theorem dX5_cut_26 : decode cX5_cut 26 = .ok (.getfield 10, 3) := by decide +kernel
theorem dX5_cut_29 : decode cX5_cut 29 = .ok (.invokevirtual 73, 3) := by decide +kernel
theorem dX5_cut_32 : decode cX5_cut 32 = .ok (.aload_n 0, 1) := by decide +kernel
theorem dX5_cut_33 : decode cX5_cut 33 = .ok (.getfield 10, 3) := by decide +kernel
theorem dX5_cut_36 : decode cX5_cut 36 = .ok (.getfield 77, 3) := by decide +kernel
theorem dX5_cut_39 : decode cX5_cut 39 = .ok (.iload_n 1, 1) := by decide +kernel
theorem dX5_cut_40 : decode cX5_cut 40 = .ok (.isub, 1) := by decide +kernel
theorem dX5_cut_41 : decode cX5_cut 41 = .ok (.istore_n 2, 1) := by decide +kernel
theorem dX5_cut_42 : decode cX5_cut 42 = .ok (.aload_n 0, 1) := by decide +kernel
theorem dX5_cut_43 : decode cX5_cut 43 = .ok (.getfield 10, 3) := by decide +kernel
theorem dX5_cut_46 : decode cX5_cut 46 = .ok (.iload_n 1, 1) := by decide +kernel
theorem dX5_cut_47 : decode cX5_cut 47 = .ok (.putfield 77, 3) := by decide +kernel
theorem dX5_cut_50 : decode cX5_cut 50 = .ok (.iload_n 2, 1) := by decide +kernel
theorem dX5_cut_51 : decode cX5_cut 51 = .ok (.ireturn, 1) := by decide +kernel
set_option maxRecDepth 20000 in
theorem ggX5_change_X3_has : GoodIn wsX5_change wsX3_has := goodIn_r _ [7, 8, 67, 68, 69] (by decide +kernel) (by decide +kernel)
set_option maxRecDepth 20000 in
theorem gX5_change_X3_has : GoodIn wsX5_change (wsV RX5 91 RX3 yX3_has wsX3_has) := goodIn_app (goodIn_of _ (by decide +kernel)) ggX5_change_X3_has
set_option maxRecDepth 20000 in
theorem ggX5_change_X5_isKind : GoodIn wsX5_change wsX5_isKind := goodIn_r _ [12] (by decide +kernel) (by decide +kernel)
set_option maxRecDepth 20000 in
theorem gX5_change_X5_isKind : GoodIn wsX5_change (va_wsS RX5 80 yX5_isKind wsX5_isKind) := goodIn_app (goodIn_of _ (by decide +kernel)) ggX5_change_X5_isKind
set_option maxRecDepth 20000 in
theorem ggX5_change_X5_finding : GoodIn wsX5_change wsX5_finding := goodIn_r _ [16, 17, 56, 57, 58, 59, 60, 61, 62, 63, 64, 65, 66] (by decide +kernel) (by decide +kernel)
set_option maxRecDepth 20000 in
theorem gX5_change_X5_finding : GoodIn wsX5_change (wsV RX5 69 RX5 yX5_finding wsX5_finding) := goodIn_app (goodIn_of _ (by decide +kernel)) ggX5_change_X5_finding
set_option maxRecDepth 20000 in
theorem ggX5_change_X2_remember : GoodIn wsX5_change wsX2_remember := goodIn_r _ [22, 23, 24, 25, 26, 27, 28, 29, 30, 31, 32, 6, 33, 34, 8, 35, 36, 37, 38, 39, 70, 71, 72, 67, 68, 69] (by decide +kernel) (by decide +kernel)
set_option maxRecDepth 20000 in
theorem gX5_change_X2_remember : GoodIn wsX5_change (wsV RX5 73 RX2 yX2_remember wsX2_remember) := goodIn_app (goodIn_of _ (by decide +kernel)) ggX5_change_X2_remember
set_option maxRecDepth 20000 in
theorem ggX5_change_X3_kind : GoodIn wsX5_change wsX3_kind := goodIn_r _ [43, 35, 67, 68, 69] (by decide +kernel) (by decide +kernel)
set_option maxRecDepth 20000 in
theorem gX5_change_X3_kind : GoodIn wsX5_change (wsV RX5 94 RX3 yX3_kind wsX3_kind) := goodIn_app (goodIn_of _ (by decide +kernel)) ggX5_change_X3_kind
set_option maxRecDepth 20000 in
theorem ggX5_change_X3_low : GoodIn wsX5_change wsX3_low := goodIn_r _ [47, 35, 67, 68, 69] (by decide +kernel) (by decide +kernel)
set_option maxRecDepth 20000 in
theorem gX5_change_X3_low : GoodIn wsX5_change (wsV RX5 97 RX3 yX3_low wsX3_low) := goodIn_app (goodIn_of _ (by decide +kernel)) ggX5_change_X3_low
set_option maxRecDepth 20000 in
theorem ggX5_change_X3_high : GoodIn wsX5_change wsX3_high := goodIn_r _ [51, 35, 67, 68, 69] (by decide +kernel) (by decide +kernel)
set_option maxRecDepth 20000 in
theorem gX5_change_X3_high : GoodIn wsX5_change (wsV RX5 100 RX3 yX3_high wsX3_high) := goodIn_app (goodIn_of _ (by decide +kernel)) ggX5_change_X3_high
set_option maxRecDepth 20000 in
theorem ggX5_change_X3_write : GoodIn wsX5_change wsX3_write := goodIn_r _ [55, 35, 67, 68, 69] (by decide +kernel) (by decide +kernel)
set_option maxRecDepth 20000 in
theorem gX5_change_X3_write : GoodIn wsX5_change (wsV RX5 103 RX3 yX3_write wsX3_write) := goodIn_app (goodIn_of _ (by decide +kernel)) ggX5_change_X3_write
theorem dX5_change_0 : decode cX5_change 0 = .ok (.aload_n 0, 1) := by decide +kernel
theorem dX5_change_1 : decode cX5_change 1 = .ok (.getfield 10, 3) := by decide +kernel
theorem dX5_change_4 : decode cX5_change 4 = .ok (.iload_n 1, 1) := by decide +kernel
theorem dX5_change_5 : decode cX5_change 5 = .ok (.invokevirtual 91, 3) := by decide +kernel
theorem dX5_change_8 : decode cX5_change 8 = .ok (.ifCond .eq 10, 3) := by decide +kernel
theorem dX5_change_11 : decode cX5_change 11 = .ok (.iload_n 2, 1) := by decide +kernel
theorem dX5_change_12 : decode cX5_change 12 = .ok (.invokestatic 80, 3) := by decide +kernel
theorem dX5_change_15 : decode cX5_change 15 = .ok (.ifCond .ne 9, 3) := by decide +kernel
theorem dX5_change_18 : decode cX5_change 18 = .ok (.aload_n 0, 1) := by decide +kernel
theorem dX5_change_19 : decode cX5_change 19 = .ok (.iconst (-1), 1) := by decide +kernel
theorem dX5_change_20 : decode cX5_change 20 = .ok (.invokevirtual 69, 3) := by decide +kernel
theorem dX5_change_23 : decode cX5_change 23 = .ok (.ireturn, 1) := by decide +kernel
theorem dX5_change_24 : decode cX5_change 24 = .ok (.aload_n 0, 1) := by decide +kernel
theorem dX5_change_25 : decode cX5_change 25 = .ok (.getfield 23, 3) := by decide +kernel
theorem dX5_change_28 : decode cX5_change 28 = .ok (.aload_n 0, 1) := by decide +kernel
theorem dX5_change_29 : decode cX5_change 29 = .ok (.getfield 10, 3) := by decide +kernel
theorem dX5_change_32 : decode cX5_change 32 = .ok (.invokevirtual 73, 3) := by decide +kernel
theorem dX5_change_35 : decode cX5_change 35 = .ok (.aload_n 0, 1) := by decide +kernel
theorem dX5_change_36 : decode cX5_change 36 = .ok (.getfield 10, 3) := by decide +kernel
theorem dX5_change_39 : decode cX5_change 39 = .ok (.iload_n 1, 1) := by decide +kernel
theorem dX5_change_40 : decode cX5_change 40 = .ok (.invokevirtual 94, 3) := by decide +kernel
theorem dX5_change_43 : decode cX5_change 43 = .ok (.istore_n 3, 1) := by decide +kernel
theorem dX5_change_44 : decode cX5_change 44 = .ok (.aload_n 0, 1) := by decide +kernel
theorem dX5_change_45 : decode cX5_change 45 = .ok (.getfield 10, 3) := by decide +kernel
theorem dX5_change_48 : decode cX5_change 48 = .ok (.iload_n 1, 1) := by decide +kernel
theorem dX5_change_49 : decode cX5_change 49 = .ok (.iload_n 2, 1) := by decide +kernel
theorem dX5_change_50 : decode cX5_change 50 = .ok (.aload_n 0, 1) := by decide +kernel
theorem dX5_change_51 : decode cX5_change 51 = .ok (.getfield 10, 3) := by decide +kernel
theorem dX5_change_54 : decode cX5_change 54 = .ok (.iload_n 1, 1) := by decide +kernel
theorem dX5_change_55 : decode cX5_change 55 = .ok (.invokevirtual 97, 3) := by decide +kernel
theorem dX5_change_58 : decode cX5_change 58 = .ok (.aload_n 0, 1) := by decide +kernel
theorem dX5_change_59 : decode cX5_change 59 = .ok (.getfield 10, 3) := by decide +kernel
theorem dX5_change_62 : decode cX5_change 62 = .ok (.iload_n 1, 1) := by decide +kernel
theorem dX5_change_63 : decode cX5_change 63 = .ok (.invokevirtual 100, 3) := by decide +kernel
theorem dX5_change_66 : decode cX5_change 66 = .ok (.invokevirtual 103, 3) := by decide +kernel
theorem dX5_change_69 : decode cX5_change 69 = .ok (.iload_n 3, 1) := by decide +kernel
theorem dX5_change_70 : decode cX5_change 70 = .ok (.ireturn, 1) := by decide +kernel
set_option maxRecDepth 20000 in
theorem ggX5_turnSwitch_X3_has : GoodIn wsX5_turnSwitch wsX3_has := goodIn_r _ [7, 8, 60, 61, 62] (by decide +kernel) (by decide +kernel)
set_option maxRecDepth 20000 in
theorem gX5_turnSwitch_X3_has : GoodIn wsX5_turnSwitch (wsV RX5 91 RX3 yX3_has wsX3_has) := goodIn_app (goodIn_of _ (by decide +kernel)) ggX5_turnSwitch_X3_has
set_option maxRecDepth 20000 in
theorem ggX5_turnSwitch_X5_finding : GoodIn wsX5_turnSwitch wsX5_finding := goodIn_r _ [13, 14, 49, 50, 51, 52, 53, 54, 55, 56, 57, 58, 59] (by decide +kernel) (by decide +kernel)
set_option maxRecDepth 20000 in
theorem gX5_turnSwitch_X5_finding : GoodIn wsX5_turnSwitch (wsV RX5 69 RX5 yX5_finding wsX5_finding) := goodIn_app (goodIn_of _ (by decide +kernel)) ggX5_turnSwitch_X5_finding
set_option maxRecDepth 20000 in
theorem ggX5_turnSwitch_X3_kind : GoodIn wsX5_turnSwitch wsX3_kind := goodIn_r _ [18, 19, 60, 61, 62] (by decide +kernel) (by decide +kernel)
set_option maxRecDepth 20000 in
theorem gX5_turnSwitch_X3_kind : GoodIn wsX5_turnSwitch (wsV RX5 94 RX3 yX3_kind wsX3_kind) := goodIn_app (goodIn_of _ (by decide +kernel)) ggX5_turnSwitch_X3_kind
set_option maxRecDepth 20000 in
theorem ggX5_turnSwitch_X2_remember : GoodIn wsX5_turnSwitch wsX2_remember := goodIn_r _ [24, 25, 26, 27, 28, 29, 30, 31, 32, 33, 34, 6, 35, 36, 8, 19, 37, 38, 39, 40, 63, 64, 65, 60, 61, 62] (by decide +kernel) (by decide +kernel)
set_option maxRecDepth 20000 in
theorem gX5_turnSwitch_X2_remember : GoodIn wsX5_turnSwitch (wsV RX5 73 RX2 yX2_remember wsX2_remember) := goodIn_app (goodIn_of _ (by decide +kernel)) ggX5_turnSwitch_X2_remember
set_option maxRecDepth 20000 in
theorem ggX5_turnSwitch_X3_switchOf : GoodIn wsX5_turnSwitch wsX3_switchOf := goodIn_r _ [44, 19, 60, 61, 62] (by decide +kernel) (by decide +kernel)
set_option maxRecDepth 20000 in
theorem gX5_turnSwitch_X3_switchOf : GoodIn wsX5_turnSwitch (wsV RX5 107 RX3 yX3_switchOf wsX3_switchOf) := goodIn_app (goodIn_of _ (by decide +kernel)) ggX5_turnSwitch_X3_switchOf
set_option maxRecDepth 20000 in
theorem ggX5_turnSwitch_X3_setSwitch : GoodIn wsX5_turnSwitch wsX3_setSwitch := goodIn_r _ [48, 19, 60, 61, 62] (by decide +kernel) (by decide +kernel)
set_option maxRecDepth 20000 in
theorem gX5_turnSwitch_X3_setSwitch : GoodIn wsX5_turnSwitch (wsV RX5 110 RX3 yX3_setSwitch wsX3_setSwitch) := goodIn_app (goodIn_of _ (by decide +kernel)) ggX5_turnSwitch_X3_setSwitch
theorem dX5_turnSwitch_0 : decode cX5_turnSwitch 0 = .ok (.aload_n 0, 1) := by decide +kernel
theorem dX5_turnSwitch_1 : decode cX5_turnSwitch 1 = .ok (.getfield 10, 3) := by decide +kernel
theorem dX5_turnSwitch_4 : decode cX5_turnSwitch 4 = .ok (.iload_n 1, 1) := by decide +kernel
theorem dX5_turnSwitch_5 : decode cX5_turnSwitch 5 = .ok (.invokevirtual 91, 3) := by decide +kernel
theorem dX5_turnSwitch_8 : decode cX5_turnSwitch 8 = .ok (.ifCond .ne 9, 3) := by decide +kernel
theorem dX5_turnSwitch_11 : decode cX5_turnSwitch 11 = .ok (.aload_n 0, 1) := by decide +kernel
theorem dX5_turnSwitch_12 : decode cX5_turnSwitch 12 = .ok (.iconst (-1), 1) := by decide +kernel
theorem dX5_turnSwitch_13 : decode cX5_turnSwitch 13 = .ok (.invokevirtual 69, 3) := by decide +kernel
theorem dX5_turnSwitch_16 : decode cX5_turnSwitch 16 = .ok (.ireturn, 1) := by decide +kernel
theorem dX5_turnSwitch_17 : decode cX5_turnSwitch 17 = .ok (.aload_n 0, 1) := by decide +kernel
theorem dX5_turnSwitch_18 : decode cX5_turnSwitch 18 = .ok (.getfield 10, 3) := by decide +kernel
theorem dX5_turnSwitch_21 : decode cX5_turnSwitch 21 = .ok (.iload_n 1, 1) := by decide +kernel
theorem dX5_turnSwitch_22 : decode cX5_turnSwitch 22 = .ok (.invokevirtual 94, 3) := by decide +kernel
theorem dX5_turnSwitch_25 : decode cX5_turnSwitch 25 = .ok (.iconst 4, 1) := by decide +kernel
theorem dX5_turnSwitch_26 : decode cX5_turnSwitch 26 = .ok (.if_icmp .eq 10, 3) := by decide +kernel
theorem dX5_turnSwitch_29 : decode cX5_turnSwitch 29 = .ok (.aload_n 0, 1) := by decide +kernel
theorem dX5_turnSwitch_30 : decode cX5_turnSwitch 30 = .ok (.bipush (-4), 2) := by decide +kernel
theorem dX5_turnSwitch_32 : decode cX5_turnSwitch 32 = .ok (.invokevirtual 69, 3) := by decide +kernel
theorem dX5_turnSwitch_35 : decode cX5_turnSwitch 35 = .ok (.ireturn, 1) := by decide +kernel
theorem dX5_turnSwitch_36 : decode cX5_turnSwitch 36 = .ok (.aload_n 0, 1) := by decide +kernel
theorem dX5_turnSwitch_37 : decode cX5_turnSwitch 37 = .ok (.getfield 23, 3) := by decide +kernel
theorem dX5_turnSwitch_40 : decode cX5_turnSwitch 40 = .ok (.aload_n 0, 1) := by decide +kernel
theorem dX5_turnSwitch_41 : decode cX5_turnSwitch 41 = .ok (.getfield 10, 3) := by decide +kernel
theorem dX5_turnSwitch_44 : decode cX5_turnSwitch 44 = .ok (.invokevirtual 73, 3) := by decide +kernel
theorem dX5_turnSwitch_47 : decode cX5_turnSwitch 47 = .ok (.aload_n 0, 1) := by decide +kernel
theorem dX5_turnSwitch_48 : decode cX5_turnSwitch 48 = .ok (.getfield 10, 3) := by decide +kernel
theorem dX5_turnSwitch_51 : decode cX5_turnSwitch 51 = .ok (.iload_n 1, 1) := by decide +kernel
theorem dX5_turnSwitch_52 : decode cX5_turnSwitch 52 = .ok (.invokevirtual 107, 3) := by decide +kernel
theorem dX5_turnSwitch_55 : decode cX5_turnSwitch 55 = .ok (.istore_n 3, 1) := by decide +kernel
theorem dX5_turnSwitch_56 : decode cX5_turnSwitch 56 = .ok (.aload_n 0, 1) := by decide +kernel
theorem dX5_turnSwitch_57 : decode cX5_turnSwitch 57 = .ok (.getfield 10, 3) := by decide +kernel
theorem dX5_turnSwitch_60 : decode cX5_turnSwitch 60 = .ok (.iload_n 1, 1) := by decide +kernel
theorem dX5_turnSwitch_61 : decode cX5_turnSwitch 61 = .ok (.iload_n 2, 1) := by decide +kernel
theorem dX5_turnSwitch_62 : decode cX5_turnSwitch 62 = .ok (.invokevirtual 110, 3) := by decide +kernel
theorem dX5_turnSwitch_65 : decode cX5_turnSwitch 65 = .ok (.iload_n 3, 1) := by decide +kernel
theorem dX5_turnSwitch_66 : decode cX5_turnSwitch 66 = .ok (.ireturn, 1) := by decide +kernel
set_option maxRecDepth 20000 in
theorem ggX5_as_X3_has : GoodIn wsX5_as wsX3_has := goodIn_r _ [6, 7, 37, 38, 39] (by decide +kernel) (by decide +kernel)
set_option maxRecDepth 20000 in
theorem gX5_as_X3_has : GoodIn wsX5_as (wsV RX5 91 RX3 yX3_has wsX3_has) := goodIn_app (goodIn_of _ (by decide +kernel)) ggX5_as_X3_has
set_option maxRecDepth 20000 in
theorem ggX5_as_X5_isKind : GoodIn wsX5_as wsX5_isKind := goodIn_r _ [11] (by decide +kernel) (by decide +kernel)
set_option maxRecDepth 20000 in
theorem gX5_as_X5_isKind : GoodIn wsX5_as (va_wsS RX5 80 yX5_isKind wsX5_isKind) := goodIn_app (goodIn_of _ (by decide +kernel)) ggX5_as_X5_isKind
set_option maxRecDepth 20000 in
theorem ggX5_as_X5_finding : GoodIn wsX5_as wsX5_finding := goodIn_r _ [15, 16, 26, 27, 28, 29, 30, 31, 32, 33, 34, 35, 36] (by decide +kernel) (by decide +kernel)
set_option maxRecDepth 20000 in
theorem gX5_as_X5_finding : GoodIn wsX5_as (wsV RX5 69 RX5 yX5_finding wsX5_finding) := goodIn_app (goodIn_of _ (by decide +kernel)) ggX5_as_X5_finding
set_option maxRecDepth 20000 in
theorem ggX5_as_X3_kind : GoodIn wsX5_as wsX3_kind := goodIn_r _ [20, 21, 37, 38, 39] (by decide +kernel) (by decide +kernel)
set_option maxRecDepth 20000 in
theorem gX5_as_X3_kind : GoodIn wsX5_as (wsV RX5 94 RX3 yX3_kind wsX3_kind) := goodIn_app (goodIn_of _ (by decide +kernel)) ggX5_as_X3_kind
set_option maxRecDepth 20000 in
theorem ggX5_as_X5_isUnder : GoodIn wsX5_as wsX5_isUnder := goodIn_r _ [24, 25, 8, 9, 10, 11] (by decide +kernel) (by decide +kernel)
set_option maxRecDepth 20000 in
theorem gX5_as_X5_isUnder : GoodIn wsX5_as (va_wsS RX5 114 yX5_isUnder wsX5_isUnder) := goodIn_app (goodIn_of _ (by decide +kernel)) ggX5_as_X5_isUnder
theorem dX5_as_0 : decode cX5_as 0 = .ok (.aload_n 0, 1) := by decide +kernel
theorem dX5_as_1 : decode cX5_as 1 = .ok (.getfield 10, 3) := by decide +kernel
theorem dX5_as_4 : decode cX5_as 4 = .ok (.iload_n 1, 1) := by decide +kernel
theorem dX5_as_5 : decode cX5_as 5 = .ok (.invokevirtual 91, 3) := by decide +kernel
theorem dX5_as_8 : decode cX5_as 8 = .ok (.ifCond .eq 10, 3) := by decide +kernel
theorem dX5_as_11 : decode cX5_as 11 = .ok (.iload_n 2, 1) := by decide +kernel
theorem dX5_as_12 : decode cX5_as 12 = .ok (.invokestatic 80, 3) := by decide +kernel
theorem dX5_as_15 : decode cX5_as 15 = .ok (.ifCond .ne 9, 3) := by decide +kernel
theorem dX5_as_18 : decode cX5_as 18 = .ok (.aload_n 0, 1) := by decide +kernel
theorem dX5_as_19 : decode cX5_as 19 = .ok (.iconst (-1), 1) := by decide +kernel
theorem dX5_as_20 : decode cX5_as 20 = .ok (.invokevirtual 69, 3) := by decide +kernel
theorem dX5_as_23 : decode cX5_as 23 = .ok (.ireturn, 1) := by decide +kernel
theorem dX5_as_24 : decode cX5_as 24 = .ok (.aload_n 0, 1) := by decide +kernel
theorem dX5_as_25 : decode cX5_as 25 = .ok (.getfield 10, 3) := by decide +kernel
theorem dX5_as_28 : decode cX5_as 28 = .ok (.iload_n 1, 1) := by decide +kernel
theorem dX5_as_29 : decode cX5_as 29 = .ok (.invokevirtual 94, 3) := by decide +kernel
theorem dX5_as_32 : decode cX5_as 32 = .ok (.iload_n 2, 1) := by decide +kernel
theorem dX5_as_33 : decode cX5_as 33 = .ok (.invokestatic 114, 3) := by decide +kernel
theorem dX5_as_36 : decode cX5_as 36 = .ok (.ifCond .ne 10, 3) := by decide +kernel
theorem dX5_as_39 : decode cX5_as 39 = .ok (.aload_n 0, 1) := by decide +kernel
theorem dX5_as_40 : decode cX5_as 40 = .ok (.bipush (-4), 2) := by decide +kernel
theorem dX5_as_42 : decode cX5_as 42 = .ok (.invokevirtual 69, 3) := by decide +kernel
theorem dX5_as_45 : decode cX5_as 45 = .ok (.ireturn, 1) := by decide +kernel
theorem dX5_as_46 : decode cX5_as 46 = .ok (.iload_n 1, 1) := by decide +kernel
theorem dX5_as_47 : decode cX5_as 47 = .ok (.ireturn, 1) := by decide +kernel
set_option maxRecDepth 20000 in
theorem ggX5_of_X3_has : GoodIn wsX5_of wsX3_has := goodIn_r _ [7, 8, 52, 53, 54] (by decide +kernel) (by decide +kernel)
set_option maxRecDepth 20000 in
theorem gX5_of_X3_has : GoodIn wsX5_of (wsV RX5 91 RX3 yX3_has wsX3_has) := goodIn_app (goodIn_of _ (by decide +kernel)) ggX5_of_X3_has
set_option maxRecDepth 20000 in
theorem ggX5_of_X5_finding : GoodIn wsX5_of wsX5_finding := goodIn_r _ [13, 14, 41, 42, 43, 44, 45, 46, 47, 48, 49, 50, 51] (by decide +kernel) (by decide +kernel)
set_option maxRecDepth 20000 in
theorem gX5_of_X5_finding : GoodIn wsX5_of (wsV RX5 69 RX5 yX5_finding wsX5_finding) := goodIn_app (goodIn_of _ (by decide +kernel)) ggX5_of_X5_finding
set_option maxRecDepth 20000 in
theorem ggX5_of_X3_kind : GoodIn wsX5_of wsX3_kind := goodIn_r _ [18, 19, 52, 53, 54] (by decide +kernel) (by decide +kernel)
set_option maxRecDepth 20000 in
theorem gX5_of_X3_kind : GoodIn wsX5_of (wsV RX5 94 RX3 yX3_kind wsX3_kind) := goodIn_app (goodIn_of _ (by decide +kernel)) ggX5_of_X3_kind
set_option maxRecDepth 20000 in
theorem ggX5_of_X3_low : GoodIn wsX5_of wsX3_low := goodIn_r _ [23, 19, 52, 53, 54] (by decide +kernel) (by decide +kernel)
set_option maxRecDepth 20000 in
theorem gX5_of_X3_low : GoodIn wsX5_of (wsV RX5 97 RX3 yX3_low wsX3_low) := goodIn_app (goodIn_of _ (by decide +kernel)) ggX5_of_X3_low
set_option maxRecDepth 20000 in
theorem ggX5_of_X3_high : GoodIn wsX5_of wsX3_high := goodIn_r _ [27, 19, 52, 53, 54] (by decide +kernel) (by decide +kernel)
set_option maxRecDepth 20000 in
theorem gX5_of_X3_high : GoodIn wsX5_of (wsV RX5 100 RX3 yX3_high wsX3_high) := goodIn_app (goodIn_of _ (by decide +kernel)) ggX5_of_X3_high
set_option maxRecDepth 20000 in
theorem ggX5_of_X5_lastRound : GoodIn wsX5_of wsX5_lastRound := goodIn_r _ [31, 2, 1, 32, 33, 34, 35, 36, 20, 21, 22, 6, 23, 19, 24, 25, 26, 27, 41, 42, 43, 44, 45, 46, 47, 48, 49, 50, 51, 52, 53, 54] (by decide +kernel) (by decide +kernel)
set_option maxRecDepth 20000 in
theorem gX5_of_X5_lastRound : GoodIn wsX5_of (wsV RX5 118 RX5 yX5_lastRound wsX5_lastRound) := goodIn_app (goodIn_of _ (by decide +kernel)) ggX5_of_X5_lastRound
set_option maxRecDepth 20000 in
theorem ggX5_of_X3_switchOf : GoodIn wsX5_of wsX3_switchOf := goodIn_r _ [40, 19, 52, 53, 54] (by decide +kernel) (by decide +kernel)
set_option maxRecDepth 20000 in
theorem gX5_of_X3_switchOf : GoodIn wsX5_of (wsV RX5 107 RX3 yX3_switchOf wsX3_switchOf) := goodIn_app (goodIn_of _ (by decide +kernel)) ggX5_of_X3_switchOf
theorem dX5_of_0 : decode cX5_of 0 = .ok (.aload_n 0, 1) := by decide +kernel
theorem dX5_of_1 : decode cX5_of 1 = .ok (.getfield 10, 3) := by decide +kernel
theorem dX5_of_4 : decode cX5_of 4 = .ok (.iload_n 1, 1) := by decide +kernel
theorem dX5_of_5 : decode cX5_of 5 = .ok (.invokevirtual 91, 3) := by decide +kernel
theorem dX5_of_8 : decode cX5_of 8 = .ok (.ifCond .ne 9, 3) := by decide +kernel
theorem dX5_of_11 : decode cX5_of 11 = .ok (.aload_n 0, 1) := by decide +kernel
theorem dX5_of_12 : decode cX5_of 12 = .ok (.iconst (-1), 1) := by decide +kernel
theorem dX5_of_13 : decode cX5_of 13 = .ok (.invokevirtual 69, 3) := by decide +kernel
theorem dX5_of_16 : decode cX5_of 16 = .ok (.ireturn, 1) := by decide +kernel
theorem dX5_of_17 : decode cX5_of 17 = .ok (.iload_n 2, 1) := by decide +kernel
theorem dX5_of_18 : decode cX5_of 18 = .ok (.tableswitch 92 0 4 #[34, 43, 52, 61, 83], 34) := by decide +kernel
theorem dX5_of_52 : decode cX5_of 52 = .ok (.aload_n 0, 1) := by decide +kernel
theorem dX5_of_53 : decode cX5_of 53 = .ok (.getfield 10, 3) := by decide +kernel
theorem dX5_of_56 : decode cX5_of 56 = .ok (.iload_n 1, 1) := by decide +kernel
theorem dX5_of_57 : decode cX5_of 57 = .ok (.invokevirtual 94, 3) := by decide +kernel
theorem dX5_of_60 : decode cX5_of 60 = .ok (.ireturn, 1) := by decide +kernel
theorem dX5_of_61 : decode cX5_of 61 = .ok (.aload_n 0, 1) := by decide +kernel
theorem dX5_of_62 : decode cX5_of 62 = .ok (.getfield 10, 3) := by decide +kernel
theorem dX5_of_65 : decode cX5_of 65 = .ok (.iload_n 1, 1) := by decide +kernel
theorem dX5_of_66 : decode cX5_of 66 = .ok (.invokevirtual 97, 3) := by decide +kernel
theorem dX5_of_69 : decode cX5_of 69 = .ok (.ireturn, 1) := by decide +kernel
theorem dX5_of_70 : decode cX5_of 70 = .ok (.aload_n 0, 1) := by decide +kernel
theorem dX5_of_71 : decode cX5_of 71 = .ok (.getfield 10, 3) := by decide +kernel
theorem dX5_of_74 : decode cX5_of 74 = .ok (.iload_n 1, 1) := by decide +kernel
theorem dX5_of_75 : decode cX5_of 75 = .ok (.invokevirtual 100, 3) := by decide +kernel
theorem dX5_of_78 : decode cX5_of 78 = .ok (.ireturn, 1) := by decide +kernel
theorem dX5_of_79 : decode cX5_of 79 = .ok (.aload_n 0, 1) := by decide +kernel
theorem dX5_of_80 : decode cX5_of 80 = .ok (.iload_n 1, 1) := by decide +kernel
theorem dX5_of_81 : decode cX5_of 81 = .ok (.iconst 1, 1) := by decide +kernel
theorem dX5_of_82 : decode cX5_of 82 = .ok (.iadd, 1) := by decide +kernel
theorem dX5_of_83 : decode cX5_of 83 = .ok (.invokevirtual 118, 3) := by decide +kernel
theorem dX5_of_86 : decode cX5_of 86 = .ok (.pop, 1) := by decide +kernel
theorem dX5_of_87 : decode cX5_of 87 = .ok (.aload_n 0, 1) := by decide +kernel
theorem dX5_of_88 : decode cX5_of 88 = .ok (.getfield 50, 3) := by decide +kernel
theorem dX5_of_91 : decode cX5_of 91 = .ok (.aload_n 0, 1) := by decide +kernel
theorem dX5_of_92 : decode cX5_of 92 = .ok (.getfield 10, 3) := by decide +kernel
theorem dX5_of_95 : decode cX5_of 95 = .ok (.iload_n 1, 1) := by decide +kernel
theorem dX5_of_96 : decode cX5_of 96 = .ok (.invokevirtual 97, 3) := by decide +kernel
theorem dX5_of_99 : decode cX5_of 99 = .ok (.iaload, 1) := by decide +kernel
theorem dX5_of_100 : decode cX5_of 100 = .ok (.ireturn, 1) := by decide +kernel
theorem dX5_of_101 : decode cX5_of 101 = .ok (.aload_n 0, 1) := by decide +kernel
theorem dX5_of_102 : decode cX5_of 102 = .ok (.getfield 10, 3) := by decide +kernel
theorem dX5_of_105 : decode cX5_of 105 = .ok (.iload_n 1, 1) := by decide +kernel
theorem dX5_of_106 : decode cX5_of 106 = .ok (.invokevirtual 107, 3) := by decide +kernel
theorem dX5_of_109 : decode cX5_of 109 = .ok (.ireturn, 1) := by decide +kernel
theorem dX5_of_110 : decode cX5_of 110 = .ok (.aload_n 0, 1) := by decide +kernel
theorem dX5_of_111 : decode cX5_of 111 = .ok (.iconst (-1), 1) := by decide +kernel
theorem dX5_of_112 : decode cX5_of 112 = .ok (.invokevirtual 69, 3) := by decide +kernel
theorem dX5_of_115 : decode cX5_of 115 = .ok (.ireturn, 1) := by decide +kernel
set_option maxRecDepth 20000 in
theorem ggX5_rounds_X5_lastRound : GoodIn wsX5_rounds wsX5_lastRound := goodIn_r _ [7, 8, 1, 2, 9, 10, 11, 12, 13, 14, 15, 16, 17, 18, 19, 20, 21, 22, 23, 24, 25, 26, 27, 28, 29, 30, 31, 32, 33, 34, 35, 36] (by decide +kernel) (by decide +kernel)
set_option maxRecDepth 20000 in
theorem gX5_rounds_X5_lastRound : GoodIn wsX5_rounds (wsV RX5 118 RX5 yX5_lastRound wsX5_lastRound) := goodIn_app (goodIn_of _ (by decide +kernel)) ggX5_rounds_X5_lastRound
theorem dX5_rounds_0 : decode cX5_rounds 0 = .ok (.aload_n 0, 1) := by decide +kernel
theorem dX5_rounds_1 : decode cX5_rounds 1 = .ok (.aload_n 0, 1) := by decide +kernel
theorem dX5_rounds_2 : decode cX5_rounds 2 = .ok (.getfield 10, 3) := by decide +kernel
theorem dX5_rounds_5 : decode cX5_rounds 5 = .ok (.getfield 77, 3) := by decide +kernel
theorem dX5_rounds_8 : decode cX5_rounds 8 = .ok (.invokevirtual 118, 3) := by decide +kernel
theorem dX5_rounds_11 : decode cX5_rounds 11 = .ok (.ireturn, 1) := by decide +kernel
set_option maxRecDepth 20000 in
theorem ggX5_crate_X5_isCrate : GoodIn wsX5_crate wsX5_isCrate := goodIn_r _ [5] (by decide +kernel) (by decide +kernel)
set_option maxRecDepth 20000 in
theorem gX5_crate_X5_isCrate : GoodIn wsX5_crate (va_wsS RX5 121 yX5_isCrate wsX5_isCrate) := goodIn_app (goodIn_of _ (by decide +kernel)) ggX5_crate_X5_isCrate
set_option maxRecDepth 20000 in
theorem ggX5_crate_X5_finding : GoodIn wsX5_crate wsX5_finding := goodIn_r _ [9, 10, 19, 20, 21, 22, 23, 24, 25, 26, 27, 28, 29] (by decide +kernel) (by decide +kernel)
set_option maxRecDepth 20000 in
theorem gX5_crate_X5_finding : GoodIn wsX5_crate (wsV RX5 69 RX5 yX5_finding wsX5_finding) := goodIn_app (goodIn_of _ (by decide +kernel)) ggX5_crate_X5_finding
set_option maxRecDepth 20000 in
theorem ggX5_crate_X1_renew : GoodIn wsX5_crate wsX1_renew := goodIn_r _ [15, 16, 17, 18, 30, 31, 32] (by decide +kernel) (by decide +kernel)
set_option maxRecDepth 20000 in
theorem gX5_crate_X1_renew : GoodIn wsX5_crate (wsV RX5 124 RX1 yX1_renew wsX1_renew) := goodIn_app (goodIn_of _ (by decide +kernel)) ggX5_crate_X1_renew
theorem dX5_crate_0 : decode cX5_crate 0 = .ok (.iload_n 1, 1) := by decide +kernel
theorem dX5_crate_1 : decode cX5_crate 1 = .ok (.invokestatic 121, 3) := by decide +kernel
theorem dX5_crate_4 : decode cX5_crate 4 = .ok (.ifCond .eq 13, 3) := by decide +kernel
theorem dX5_crate_7 : decode cX5_crate 7 = .ok (.iload_n 2, 1) := by decide +kernel
theorem dX5_crate_8 : decode cX5_crate 8 = .ok (.ifCond .lt 9, 3) := by decide +kernel
theorem dX5_crate_11 : decode cX5_crate 11 = .ok (.iload_n 2, 1) := by decide +kernel
theorem dX5_crate_12 : decode cX5_crate 12 = .ok (.bipush 7, 2) := by decide +kernel
theorem dX5_crate_14 : decode cX5_crate 14 = .ok (.if_icmp .le 9, 3) := by decide +kernel
theorem dX5_crate_17 : decode cX5_crate 17 = .ok (.aload_n 0, 1) := by decide +kernel
theorem dX5_crate_18 : decode cX5_crate 18 = .ok (.iconst (-1), 1) := by decide +kernel
theorem dX5_crate_19 : decode cX5_crate 19 = .ok (.invokevirtual 69, 3) := by decide +kernel
theorem dX5_crate_22 : decode cX5_crate 22 = .ok (.ireturn, 1) := by decide +kernel
theorem dX5_crate_23 : decode cX5_crate 23 = .ok (.iload_n 3, 1) := by decide +kernel
theorem dX5_crate_24 : decode cX5_crate 24 = .ok (.ifCond .ge 10, 3) := by decide +kernel
theorem dX5_crate_27 : decode cX5_crate 27 = .ok (.aload_n 0, 1) := by decide +kernel
theorem dX5_crate_28 : decode cX5_crate 28 = .ok (.bipush (-3), 2) := by decide +kernel
theorem dX5_crate_30 : decode cX5_crate 30 = .ok (.invokevirtual 69, 3) := by decide +kernel
theorem dX5_crate_33 : decode cX5_crate 33 = .ok (.ireturn, 1) := by decide +kernel
theorem dX5_crate_34 : decode cX5_crate 34 = .ok (.iload_n 3, 1) := by decide +kernel
theorem dX5_crate_35 : decode cX5_crate 35 = .ok (.bipush 12, 2) := by decide +kernel
theorem dX5_crate_37 : decode cX5_crate 37 = .ok (.if_icmp .le 9, 3) := by decide +kernel
theorem dX5_crate_40 : decode cX5_crate 40 = .ok (.aload_n 0, 1) := by decide +kernel
theorem dX5_crate_41 : decode cX5_crate 41 = .ok (.iconst (-1), 1) := by decide +kernel
theorem dX5_crate_42 : decode cX5_crate 42 = .ok (.invokevirtual 69, 3) := by decide +kernel
theorem dX5_crate_45 : decode cX5_crate 45 = .ok (.ireturn, 1) := by decide +kernel
theorem dX5_crate_46 : decode cX5_crate 46 = .ok (.iload_n 2, 1) := by decide +kernel
theorem dX5_crate_47 : decode cX5_crate 47 = .ok (.ifCond .ne 7, 3) := by decide +kernel
theorem dX5_crate_50 : decode cX5_crate 50 = .ok (.iconst 0, 1) := by decide +kernel
theorem dX5_crate_51 : decode cX5_crate 51 = .ok (.goto 4, 3) := by decide +kernel
theorem dX5_crate_54 : decode cX5_crate 54 = .ok (.iload_n 3, 1) := by decide +kernel
theorem dX5_crate_55 : decode cX5_crate 55 = .ok (.istore 4, 2) := by decide +kernel
theorem dX5_crate_57 : decode cX5_crate 57 = .ok (.aload_n 0, 1) := by decide +kernel
theorem dX5_crate_58 : decode cX5_crate 58 = .ok (.getfield 29, 3) := by decide +kernel
theorem dX5_crate_61 : decode cX5_crate 61 = .ok (.iload_n 1, 1) := by decide +kernel
theorem dX5_crate_62 : decode cX5_crate 62 = .ok (.aaload, 1) := by decide +kernel
theorem dX5_crate_63 : decode cX5_crate 63 = .ok (.iload_n 2, 1) := by decide +kernel
theorem dX5_crate_64 : decode cX5_crate 64 = .ok (.iload 4, 2) := by decide +kernel
theorem dX5_crate_66 : decode cX5_crate 66 = .ok (.invokevirtual 124, 3) := by decide +kernel
theorem dX5_crate_69 : decode cX5_crate 69 = .ok (.iload 4, 2) := by decide +kernel
theorem dX5_crate_71 : decode cX5_crate 71 = .ok (.ireturn, 1) := by decide +kernel
set_option maxRecDepth 20000 in
theorem ggX5_put_X5_findingOfLoad : GoodIn wsX5_put wsX5_findingOfLoad := goodIn_r _ [6, 1, 7, 8, 9, 10, 5, 11, 12, 13, 14, 15, 16, 17, 18, 19, 20, 40, 41, 42, 43, 44, 45, 46, 47, 48, 49, 50, 51, 52, 53] (by decide +kernel) (by decide +kernel)
set_option maxRecDepth 20000 in
theorem gX5_put_X5_findingOfLoad : GoodIn wsX5_put (wsV RX5 128 RX5 yX5_findingOfLoad wsX5_findingOfLoad) := goodIn_app (goodIn_of _ (by decide +kernel)) ggX5_put_X5_findingOfLoad
set_option maxRecDepth 20000 in
theorem ggX5_put_X5_finding : GoodIn wsX5_put wsX5_finding := goodIn_r _ [24, 25, 40, 41, 42, 43, 44, 45, 46, 47, 48, 49, 50] (by decide +kernel) (by decide +kernel)
set_option maxRecDepth 20000 in
theorem gX5_put_X5_finding : GoodIn wsX5_put (wsV RX5 69 RX5 yX5_finding wsX5_finding) := goodIn_app (goodIn_of _ (by decide +kernel)) ggX5_put_X5_finding
set_option maxRecDepth 20000 in
theorem ggX5_put_X1_write : GoodIn wsX5_put wsX1_write := goodIn_r _ [29, 30, 20, 31, 32, 18, 33, 34, 35, 36, 37, 38, 39, 51, 52, 53] (by decide +kernel) (by decide +kernel)
set_option maxRecDepth 20000 in
theorem gX5_put_X1_write : GoodIn wsX5_put (wsV RX5 132 RX1 yX1_write wsX1_write) := goodIn_app (goodIn_of _ (by decide +kernel)) ggX5_put_X1_write
theorem dX5_put_0 : decode cX5_put 0 = .ok (.aload_n 0, 1) := by decide +kernel
theorem dX5_put_1 : decode cX5_put 1 = .ok (.iload_n 1, 1) := by decide +kernel
theorem dX5_put_2 : decode cX5_put 2 = .ok (.iload_n 2, 1) := by decide +kernel
theorem dX5_put_3 : decode cX5_put 3 = .ok (.invokevirtual 128, 3) := by decide +kernel
theorem dX5_put_6 : decode cX5_put 6 = .ok (.istore 5, 2) := by decide +kernel
theorem dX5_put_8 : decode cX5_put 8 = .ok (.iload 5, 2) := by decide +kernel
theorem dX5_put_10 : decode cX5_put 10 = .ok (.ifCond .ge 10, 3) := by decide +kernel
theorem dX5_put_13 : decode cX5_put 13 = .ok (.aload_n 0, 1) := by decide +kernel
theorem dX5_put_14 : decode cX5_put 14 = .ok (.iload 5, 2) := by decide +kernel
theorem dX5_put_16 : decode cX5_put 16 = .ok (.invokevirtual 69, 3) := by decide +kernel
theorem dX5_put_19 : decode cX5_put 19 = .ok (.ireturn, 1) := by decide +kernel
theorem dX5_put_20 : decode cX5_put 20 = .ok (.aload_n 0, 1) := by decide +kernel
theorem dX5_put_21 : decode cX5_put 21 = .ok (.getfield 29, 3) := by decide +kernel
theorem dX5_put_24 : decode cX5_put 24 = .ok (.iload_n 1, 1) := by decide +kernel
theorem dX5_put_25 : decode cX5_put 25 = .ok (.aaload, 1) := by decide +kernel
theorem dX5_put_26 : decode cX5_put 26 = .ok (.iload_n 2, 1) := by decide +kernel
theorem dX5_put_27 : decode cX5_put 27 = .ok (.lload_n 3, 1) := by decide +kernel
theorem dX5_put_28 : decode cX5_put 28 = .ok (.invokevirtual 132, 3) := by decide +kernel
theorem dX5_put_31 : decode cX5_put 31 = .ok (.iconst 0, 1) := by decide +kernel
theorem dX5_put_32 : decode cX5_put 32 = .ok (.ireturn, 1) := by decide +kernel
set_option maxRecDepth 20000 in
theorem ggX5_load_X5_findingOfLoad : GoodIn wsX5_load wsX5_findingOfLoad := goodIn_r _ [8, 2, 9, 10, 11, 12, 7, 13, 14, 15, 16, 17, 18, 19, 20, 21, 22, 28, 29, 30, 31, 32, 33, 34, 35, 36, 37, 38, 39, 40, 41] (by decide +kernel) (by decide +kernel)
set_option maxRecDepth 20000 in
theorem gX5_load_X5_findingOfLoad : GoodIn wsX5_load (wsV RX5 128 RX5 yX5_findingOfLoad wsX5_findingOfLoad) := goodIn_app (goodIn_of _ (by decide +kernel)) ggX5_load_X5_findingOfLoad
set_option maxRecDepth 20000 in
theorem ggX5_load_X5_finding : GoodIn wsX5_load wsX5_finding := goodIn_r _ [26, 27, 28, 29, 30, 31, 32, 33, 34, 35, 36, 37, 38] (by decide +kernel) (by decide +kernel)
set_option maxRecDepth 20000 in
theorem gX5_load_X5_finding : GoodIn wsX5_load (wsV RX5 69 RX5 yX5_finding wsX5_finding) := goodIn_app (goodIn_of _ (by decide +kernel)) ggX5_load_X5_finding
theorem dX5_load_0 : decode cX5_load 0 = .ok (.aload_n 0, 1) := by decide +kernel
theorem dX5_load_1 : decode cX5_load 1 = .ok (.iload_n 1, 1) := by decide +kernel
theorem dX5_load_2 : decode cX5_load 2 = .ok (.iload_n 2, 1) := by decide +kernel
theorem dX5_load_3 : decode cX5_load 3 = .ok (.invokevirtual 128, 3) := by decide +kernel
theorem dX5_load_6 : decode cX5_load 6 = .ok (.istore_n 3, 1) := by decide +kernel
theorem dX5_load_7 : decode cX5_load 7 = .ok (.iload_n 3, 1) := by decide +kernel
theorem dX5_load_8 : decode cX5_load 8 = .ok (.ifCond .ge 13, 3) := by decide +kernel
theorem dX5_load_11 : decode cX5_load 11 = .ok (.aload_n 0, 1) := by decide +kernel
theorem dX5_load_12 : decode cX5_load 12 = .ok (.iload_n 3, 1) := by decide +kernel
theorem dX5_load_13 : decode cX5_load 13 = .ok (.invokevirtual 69, 3) := by decide +kernel
theorem dX5_load_16 : decode cX5_load 16 = .ok (.pop, 1) := by decide +kernel
theorem dX5_load_17 : decode cX5_load 17 = .ok (.ldc2_w 135, 3) := by decide +kernel
theorem dX5_load_20 : decode cX5_load 20 = .ok (.lreturn, 1) := by decide +kernel
theorem dX5_load_21 : decode cX5_load 21 = .ok (.aload_n 0, 1) := by decide +kernel
theorem dX5_load_22 : decode cX5_load 22 = .ok (.getfield 29, 3) := by decide +kernel
theorem dX5_load_25 : decode cX5_load 25 = .ok (.iload_n 1, 1) := by decide +kernel
theorem dX5_load_26 : decode cX5_load 26 = .ok (.aaload, 1) := by decide +kernel
theorem dX5_load_27 : decode cX5_load 27 = .ok (.getfield 137, 3) := by decide +kernel
theorem dX5_load_30 : decode cX5_load 30 = .ok (.iload_n 2, 1) := by decide +kernel
theorem dX5_load_31 : decode cX5_load 31 = .ok (.laload, 1) := by decide +kernel
theorem dX5_load_32 : decode cX5_load 32 = .ok (.lreturn, 1) := by decide +kernel
set_option maxRecDepth 20000 in
theorem ggX5_copy_X5_isCrate : GoodIn wsX5_copy wsX5_isCrate := goodIn_r _ [11] (by decide +kernel) (by decide +kernel)
set_option maxRecDepth 20000 in
theorem gX5_copy_X5_isCrate : GoodIn wsX5_copy (va_wsS RX5 121 yX5_isCrate wsX5_isCrate) := goodIn_app (goodIn_of _ (by decide +kernel)) ggX5_copy_X5_isCrate
set_option maxRecDepth 20000 in
theorem ggX5_copy_X5_finding : GoodIn wsX5_copy wsX5_finding := goodIn_r _ [15, 16, 28, 29, 30, 31, 32, 33, 34, 35, 36, 37, 38] (by decide +kernel) (by decide +kernel)
set_option maxRecDepth 20000 in
theorem gX5_copy_X5_finding : GoodIn wsX5_copy (wsV RX5 69 RX5 yX5_finding wsX5_finding) := goodIn_app (goodIn_of _ (by decide +kernel)) ggX5_copy_X5_finding
set_option maxRecDepth 20000 in
theorem ggX5_copy_X1_isMissing : GoodIn wsX5_copy wsX1_isMissing := goodIn_r _ [21, 22, 39, 40, 41] (by decide +kernel) (by decide +kernel)
set_option maxRecDepth 20000 in
theorem gX5_copy_X1_isMissing : GoodIn wsX5_copy (wsV RX5 141 RX1 yX1_isMissing wsX1_isMissing) := goodIn_app (goodIn_of _ (by decide +kernel)) ggX5_copy_X1_isMissing
set_option maxRecDepth 20000 in
theorem ggX5_copy_X1_hasPart : GoodIn wsX5_copy wsX1_hasPart := goodIn_r _ [26, 27, 39, 40, 41] (by decide +kernel) (by decide +kernel)
set_option maxRecDepth 20000 in
theorem gX5_copy_X1_hasPart : GoodIn wsX5_copy (wsV RX5 147 RX1 yX1_hasPart wsX1_hasPart) := goodIn_app (goodIn_of _ (by decide +kernel)) ggX5_copy_X1_hasPart
theorem dX5_copy_0 : decode cX5_copy 0 = .ok (.iload_n 1, 1) := by decide +kernel
theorem dX5_copy_1 : decode cX5_copy 1 = .ok (.invokestatic 121, 3) := by decide +kernel
theorem dX5_copy_4 : decode cX5_copy 4 = .ok (.ifCond .eq 10, 3) := by decide +kernel
theorem dX5_copy_7 : decode cX5_copy 7 = .ok (.iload_n 3, 1) := by decide +kernel
theorem dX5_copy_8 : decode cX5_copy 8 = .ok (.invokestatic 121, 3) := by decide +kernel
theorem dX5_copy_11 : decode cX5_copy 11 = .ok (.ifCond .ne 9, 3) := by decide +kernel
theorem dX5_copy_14 : decode cX5_copy 14 = .ok (.aload_n 0, 1) := by decide +kernel
theorem dX5_copy_15 : decode cX5_copy 15 = .ok (.iconst (-1), 1) := by decide +kernel
theorem dX5_copy_16 : decode cX5_copy 16 = .ok (.invokevirtual 69, 3) := by decide +kernel
theorem dX5_copy_19 : decode cX5_copy 19 = .ok (.ireturn, 1) := by decide +kernel
theorem dX5_copy_20 : decode cX5_copy 20 = .ok (.aload_n 0, 1) := by decide +kernel
theorem dX5_copy_21 : decode cX5_copy 21 = .ok (.getfield 29, 3) := by decide +kernel
theorem dX5_copy_24 : decode cX5_copy 24 = .ok (.iload_n 1, 1) := by decide +kernel
theorem dX5_copy_25 : decode cX5_copy 25 = .ok (.aaload, 1) := by decide +kernel
theorem dX5_copy_26 : decode cX5_copy 26 = .ok (.astore 6, 2) := by decide +kernel
theorem dX5_copy_28 : decode cX5_copy 28 = .ok (.aload_n 0, 1) := by decide +kernel
theorem dX5_copy_29 : decode cX5_copy 29 = .ok (.getfield 29, 3) := by decide +kernel
theorem dX5_copy_32 : decode cX5_copy 32 = .ok (.iload_n 3, 1) := by decide +kernel
theorem dX5_copy_33 : decode cX5_copy 33 = .ok (.aaload, 1) := by decide +kernel
theorem dX5_copy_34 : decode cX5_copy 34 = .ok (.astore 7, 2) := by decide +kernel
theorem dX5_copy_36 : decode cX5_copy 36 = .ok (.aload 6, 2) := by decide +kernel
theorem dX5_copy_38 : decode cX5_copy 38 = .ok (.invokevirtual 141, 3) := by decide +kernel
theorem dX5_copy_41 : decode cX5_copy 41 = .ok (.ifCond .ne 11, 3) := by decide +kernel
theorem dX5_copy_44 : decode cX5_copy 44 = .ok (.aload 7, 2) := by decide +kernel
theorem dX5_copy_46 : decode cX5_copy 46 = .ok (.invokevirtual 141, 3) := by decide +kernel
theorem dX5_copy_49 : decode cX5_copy 49 = .ok (.ifCond .eq 10, 3) := by decide +kernel
theorem dX5_copy_52 : decode cX5_copy 52 = .ok (.aload_n 0, 1) := by decide +kernel
theorem dX5_copy_53 : decode cX5_copy 53 = .ok (.bipush (-2), 2) := by decide +kernel
theorem dX5_copy_55 : decode cX5_copy 55 = .ok (.invokevirtual 69, 3) := by decide +kernel
theorem dX5_copy_58 : decode cX5_copy 58 = .ok (.ireturn, 1) := by decide +kernel
theorem dX5_copy_59 : decode cX5_copy 59 = .ok (.aload 6, 2) := by decide +kernel
theorem dX5_copy_61 : decode cX5_copy 61 = .ok (.getfield 145, 3) := by decide +kernel
theorem dX5_copy_64 : decode cX5_copy 64 = .ok (.aload 7, 2) := by decide +kernel
theorem dX5_copy_66 : decode cX5_copy 66 = .ok (.getfield 145, 3) := by decide +kernel
theorem dX5_copy_69 : decode cX5_copy 69 = .ok (.if_icmp .eq 10, 3) := by decide +kernel
theorem dX5_copy_72 : decode cX5_copy 72 = .ok (.aload_n 0, 1) := by decide +kernel
theorem dX5_copy_73 : decode cX5_copy 73 = .ok (.bipush (-4), 2) := by decide +kernel
theorem dX5_copy_75 : decode cX5_copy 75 = .ok (.invokevirtual 69, 3) := by decide +kernel
theorem dX5_copy_78 : decode cX5_copy 78 = .ok (.ireturn, 1) := by decide +kernel
theorem dX5_copy_79 : decode cX5_copy 79 = .ok (.aload 6, 2) := by decide +kernel
theorem dX5_copy_81 : decode cX5_copy 81 = .ok (.iload_n 2, 1) := by decide +kernel
theorem dX5_copy_82 : decode cX5_copy 82 = .ok (.iload 5, 2) := by decide +kernel
theorem dX5_copy_84 : decode cX5_copy 84 = .ok (.invokevirtual 147, 3) := by decide +kernel
theorem dX5_copy_87 : decode cX5_copy 87 = .ok (.ifCond .eq 15, 3) := by decide +kernel
theorem dX5_copy_90 : decode cX5_copy 90 = .ok (.aload 7, 2) := by decide +kernel
theorem dX5_copy_92 : decode cX5_copy 92 = .ok (.iload 4, 2) := by decide +kernel
theorem dX5_copy_94 : decode cX5_copy 94 = .ok (.iload 5, 2) := by decide +kernel
theorem dX5_copy_96 : decode cX5_copy 96 = .ok (.invokevirtual 147, 3) := by decide +kernel
theorem dX5_copy_99 : decode cX5_copy 99 = .ok (.ifCond .ne 9, 3) := by decide +kernel
theorem dX5_copy_102 : decode cX5_copy 102 = .ok (.aload_n 0, 1) := by decide +kernel
theorem dX5_copy_103 : decode cX5_copy 103 = .ok (.iconst (-1), 1) := by decide +kernel
theorem dX5_copy_104 : decode cX5_copy 104 = .ok (.invokevirtual 69, 3) := by decide +kernel
theorem dX5_copy_107 : decode cX5_copy 107 = .ok (.ireturn, 1) := by decide +kernel
theorem dX5_copy_108 : decode cX5_copy 108 = .ok (.aload 6, 2) := by decide +kernel
theorem dX5_copy_110 : decode cX5_copy 110 = .ok (.getfield 137, 3) := by decide +kernel
theorem dX5_copy_113 : decode cX5_copy 113 = .ok (.iload_n 2, 1) := by decide +kernel
theorem dX5_copy_114 : decode cX5_copy 114 = .ok (.aload 7, 2) := by decide +kernel
theorem dX5_copy_116 : decode cX5_copy 116 = .ok (.getfield 137, 3) := by decide +kernel
theorem dX5_copy_119 : decode cX5_copy 119 = .ok (.iload 4, 2) := by decide +kernel
theorem dX5_copy_121 : decode cX5_copy 121 = .ok (.iload 5, 2) := by decide +kernel
theorem dX5_copy_123 : decode cX5_copy 123 = .ok (.invokestatic 150, 3) := by decide +kernel
theorem dX5_copy_126 : decode cX5_copy 126 = .ok (.iload 5, 2) := by decide +kernel
theorem dX5_copy_128 : decode cX5_copy 128 = .ok (.ireturn, 1) := by decide +kernel
set_option maxRecDepth 20000 in
theorem ggX5_run_X5_findingOfCrate : GoodIn wsX5_run wsX5_findingOfCrate := goodIn_r _ [10, 1, 11, 12, 9, 13, 14, 15, 16, 17, 18, 19, 69, 70, 71, 72, 73, 74, 75, 76, 77, 78, 79, 80, 81, 82] (by decide +kernel) (by decide +kernel)
set_option maxRecDepth 20000 in
theorem gX5_run_X5_findingOfCrate : GoodIn wsX5_run (wsV RX5 156 RX5 yX5_findingOfCrate wsX5_findingOfCrate) := goodIn_app (goodIn_of _ (by decide +kernel)) ggX5_run_X5_findingOfCrate
set_option maxRecDepth 20000 in
theorem ggX5_run_X5_finding : GoodIn wsX5_run wsX5_finding := goodIn_r _ [23, 24, 69, 70, 71, 72, 73, 74, 75, 76, 77, 78, 79] (by decide +kernel) (by decide +kernel)
set_option maxRecDepth 20000 in
theorem gX5_run_X5_finding : GoodIn wsX5_run (wsV RX5 69 RX5 yX5_finding wsX5_finding) := goodIn_app (goodIn_of _ (by decide +kernel)) ggX5_run_X5_finding
set_option maxRecDepth 20000 in
theorem ggX5_run_X3_actingKind : GoodIn wsX5_run wsX3_actingKind := goodIn_r _ [29, 30, 31, 32, 28, 33, 34, 35, 36, 37, 38, 83, 84, 85] (by decide +kernel) (by decide +kernel)
set_option maxRecDepth 20000 in
theorem gX5_run_X3_actingKind : GoodIn wsX5_run (wsV RX5 163 RX3 yX3_actingKind wsX3_actingKind) := goodIn_app (goodIn_of _ (by decide +kernel)) ggX5_run_X3_actingKind
set_option maxRecDepth 20000 in
theorem ggX5_run_X3_low : GoodIn wsX5_run wsX3_low := goodIn_r _ [42, 34, 83, 84, 85] (by decide +kernel) (by decide +kernel)
set_option maxRecDepth 20000 in
theorem gX5_run_X3_low : GoodIn wsX5_run (wsV RX5 97 RX3 yX3_low wsX3_low) := goodIn_app (goodIn_of _ (by decide +kernel)) ggX5_run_X3_low
set_option maxRecDepth 20000 in
theorem ggX5_run_X3_high : GoodIn wsX5_run wsX3_high := goodIn_r _ [46, 34, 83, 84, 85] (by decide +kernel) (by decide +kernel)
set_option maxRecDepth 20000 in
theorem gX5_run_X3_high : GoodIn wsX5_run (wsV RX5 100 RX3 yX3_high wsX3_high) := goodIn_app (goodIn_of _ (by decide +kernel)) ggX5_run_X3_high
set_option maxRecDepth 20000 in
theorem ggX5_run_X1_mustChange : GoodIn wsX5_run wsX1_mustChange := goodIn_r _ [50, 51, 52, 53, 17, 54, 55, 56, 57, 58, 59, 19, 60, 61, 62, 63, 64, 80, 81, 82] (by decide +kernel) (by decide +kernel)
set_option maxRecDepth 20000 in
theorem gX5_run_X1_mustChange : GoodIn wsX5_run (wsV RX5 166 RX1 yX1_mustChange wsX1_mustChange) := goodIn_app (goodIn_of _ (by decide +kernel)) ggX5_run_X1_mustChange
set_option maxRecDepth 20000 in
theorem ggX5_run_X1_exchange : GoodIn wsX5_run wsX1_exchange := goodIn_r _ [68, 55, 80, 81, 82] (by decide +kernel) (by decide +kernel)
set_option maxRecDepth 20000 in
theorem gX5_run_X1_exchange : GoodIn wsX5_run (wsV RX5 170 RX1 yX1_exchange wsX1_exchange) := goodIn_app (goodIn_of _ (by decide +kernel)) ggX5_run_X1_exchange
theorem dX5_run_0 : decode cX5_run 0 = .ok (.aload_n 0, 1) := by decide +kernel
theorem dX5_run_1 : decode cX5_run 1 = .ok (.iload_n 1, 1) := by decide +kernel
theorem dX5_run_2 : decode cX5_run 2 = .ok (.invokevirtual 156, 3) := by decide +kernel
theorem dX5_run_5 : decode cX5_run 5 = .ok (.istore_n 2, 1) := by decide +kernel
theorem dX5_run_6 : decode cX5_run 6 = .ok (.iload_n 2, 1) := by decide +kernel
theorem dX5_run_7 : decode cX5_run 7 = .ok (.ifCond .ge 9, 3) := by decide +kernel
theorem dX5_run_10 : decode cX5_run 10 = .ok (.aload_n 0, 1) := by decide +kernel
theorem dX5_run_11 : decode cX5_run 11 = .ok (.iload_n 2, 1) := by decide +kernel
theorem dX5_run_12 : decode cX5_run 12 = .ok (.invokevirtual 69, 3) := by decide +kernel
theorem dX5_run_15 : decode cX5_run 15 = .ok (.ireturn, 1) := by decide +kernel
theorem dX5_run_16 : decode cX5_run 16 = .ok (.aload_n 0, 1) := by decide +kernel
theorem dX5_run_17 : decode cX5_run 17 = .ok (.getfield 29, 3) := by decide +kernel
theorem dX5_run_20 : decode cX5_run 20 = .ok (.iload_n 1, 1) := by decide +kernel
theorem dX5_run_21 : decode cX5_run 21 = .ok (.aaload, 1) := by decide +kernel
theorem dX5_run_22 : decode cX5_run 22 = .ok (.astore_n 3, 1) := by decide +kernel
theorem dX5_run_23 : decode cX5_run 23 = .ok (.aload_n 3, 1) := by decide +kernel
theorem dX5_run_24 : decode cX5_run 24 = .ok (.getfield 159, 3) := by decide +kernel
theorem dX5_run_27 : decode cX5_run 27 = .ok (.aload_n 0, 1) := by decide +kernel
theorem dX5_run_28 : decode cX5_run 28 = .ok (.getfield 10, 3) := by decide +kernel
theorem dX5_run_31 : decode cX5_run 31 = .ok (.getfield 160, 3) := by decide +kernel
theorem dX5_run_34 : decode cX5_run 34 = .ok (.if_icmp .ge 10, 3) := by decide +kernel
theorem dX5_run_37 : decode cX5_run 37 = .ok (.aload_n 0, 1) := by decide +kernel
theorem dX5_run_38 : decode cX5_run 38 = .ok (.bipush (-3), 2) := by decide +kernel
theorem dX5_run_40 : decode cX5_run 40 = .ok (.invokevirtual 69, 3) := by decide +kernel
theorem dX5_run_43 : decode cX5_run 43 = .ok (.ireturn, 1) := by decide +kernel
theorem dX5_run_44 : decode cX5_run 44 = .ok (.iconst 0, 1) := by decide +kernel
theorem dX5_run_45 : decode cX5_run 45 = .ok (.istore 4, 2) := by decide +kernel
theorem dX5_run_47 : decode cX5_run 47 = .ok (.iconst 0, 1) := by decide +kernel
theorem dX5_run_48 : decode cX5_run 48 = .ok (.istore 5, 2) := by decide +kernel
theorem dX5_run_50 : decode cX5_run 50 = .ok (.iload 5, 2) := by decide +kernel
theorem dX5_run_52 : decode cX5_run 52 = .ok (.aload_n 0, 1) := by decide +kernel
theorem dX5_run_53 : decode cX5_run 53 = .ok (.getfield 10, 3) := by decide +kernel
theorem dX5_run_56 : decode cX5_run 56 = .ok (.getfield 77, 3) := by decide +kernel
theorem dX5_run_59 : decode cX5_run 59 = .ok (.if_icmp .ge 68, 3) := by decide +kernel
theorem dX5_run_62 : decode cX5_run 62 = .ok (.aload_n 3, 1) := by decide +kernel
theorem dX5_run_63 : decode cX5_run 63 = .ok (.aload_n 0, 1) := by decide +kernel
theorem dX5_run_64 : decode cX5_run 64 = .ok (.getfield 10, 3) := by decide +kernel
theorem dX5_run_67 : decode cX5_run 67 = .ok (.iload 5, 2) := by decide +kernel
theorem dX5_run_69 : decode cX5_run 69 = .ok (.invokevirtual 163, 3) := by decide +kernel
theorem dX5_run_72 : decode cX5_run 72 = .ok (.aload_n 0, 1) := by decide +kernel
theorem dX5_run_73 : decode cX5_run 73 = .ok (.getfield 10, 3) := by decide +kernel
theorem dX5_run_76 : decode cX5_run 76 = .ok (.iload 5, 2) := by decide +kernel
theorem dX5_run_78 : decode cX5_run 78 = .ok (.invokevirtual 97, 3) := by decide +kernel
theorem dX5_run_81 : decode cX5_run 81 = .ok (.aload_n 0, 1) := by decide +kernel
theorem dX5_run_82 : decode cX5_run 82 = .ok (.getfield 10, 3) := by decide +kernel
theorem dX5_run_85 : decode cX5_run 85 = .ok (.iload 5, 2) := by decide +kernel
theorem dX5_run_87 : decode cX5_run 87 = .ok (.invokevirtual 100, 3) := by decide +kernel
theorem dX5_run_90 : decode cX5_run 90 = .ok (.invokevirtual 166, 3) := by decide +kernel
theorem dX5_run_93 : decode cX5_run 93 = .ok (.ifCond .eq 28, 3) := by decide +kernel
theorem dX5_run_96 : decode cX5_run 96 = .ok (.aload_n 3, 1) := by decide +kernel
theorem dX5_run_97 : decode cX5_run 97 = .ok (.aload_n 0, 1) := by decide +kernel
theorem dX5_run_98 : decode cX5_run 98 = .ok (.getfield 10, 3) := by decide +kernel
theorem dX5_run_101 : decode cX5_run 101 = .ok (.iload 5, 2) := by decide +kernel
theorem dX5_run_103 : decode cX5_run 103 = .ok (.invokevirtual 97, 3) := by decide +kernel
theorem dX5_run_106 : decode cX5_run 106 = .ok (.aload_n 0, 1) := by decide +kernel
theorem dX5_run_107 : decode cX5_run 107 = .ok (.getfield 10, 3) := by decide +kernel
theorem dX5_run_110 : decode cX5_run 110 = .ok (.iload 5, 2) := by decide +kernel
theorem dX5_run_112 : decode cX5_run 112 = .ok (.invokevirtual 100, 3) := by decide +kernel
theorem dX5_run_115 : decode cX5_run 115 = .ok (.invokevirtual 170, 3) := by decide +kernel
theorem dX5_run_118 : decode cX5_run 118 = .ok (.iinc 4 1, 3) := by decide +kernel
theorem dX5_run_121 : decode cX5_run 121 = .ok (.iinc 5 1, 3) := by decide +kernel
theorem dX5_run_124 : decode cX5_run 124 = .ok (.goto (-74), 3) := by decide +kernel
theorem dX5_run_127 : decode cX5_run 127 = .ok (.iload 4, 2) := by decide +kernel
theorem dX5_run_129 : decode cX5_run 129 = .ok (.ireturn, 1) := by decide +kernel
set_option maxRecDepth 20000 in
theorem ggX5_rises_X5_findingOfCrate : GoodIn wsX5_rises wsX5_findingOfCrate := goodIn_r _ [7, 1, 8, 9, 6, 10, 11, 12, 13, 14, 15, 16, 36, 37, 38, 39, 40, 41, 42, 43, 44, 45, 46, 47, 48, 49] (by decide +kernel) (by decide +kernel)
set_option maxRecDepth 20000 in
theorem gX5_rises_X5_findingOfCrate : GoodIn wsX5_rises (wsV RX5 156 RX5 yX5_findingOfCrate wsX5_findingOfCrate) := goodIn_app (goodIn_of _ (by decide +kernel)) ggX5_rises_X5_findingOfCrate
set_option maxRecDepth 20000 in
theorem ggX5_rises_X5_finding : GoodIn wsX5_rises wsX5_finding := goodIn_r _ [20, 21, 36, 37, 38, 39, 40, 41, 42, 43, 44, 45, 46] (by decide +kernel) (by decide +kernel)
set_option maxRecDepth 20000 in
theorem gX5_rises_X5_finding : GoodIn wsX5_rises (wsV RX5 69 RX5 yX5_finding wsX5_finding) := goodIn_app (goodIn_of _ (by decide +kernel)) ggX5_rises_X5_finding
set_option maxRecDepth 20000 in
theorem ggX5_rises_X1_compare : GoodIn wsX5_rises wsX1_compare := goodIn_r _ [25, 26, 27, 28, 29, 14, 30, 16, 31, 32, 33, 34, 35, 47, 48, 49] (by decide +kernel) (by decide +kernel)
set_option maxRecDepth 20000 in
theorem gX5_rises_X1_compare : GoodIn wsX5_rises (wsV RX5 173 RX1 yX1_compare wsX1_compare) := goodIn_app (goodIn_of _ (by decide +kernel)) ggX5_rises_X1_compare
theorem dX5_rises_0 : decode cX5_rises 0 = .ok (.aload_n 0, 1) := by decide +kernel
theorem dX5_rises_1 : decode cX5_rises 1 = .ok (.iload_n 1, 1) := by decide +kernel
theorem dX5_rises_2 : decode cX5_rises 2 = .ok (.invokevirtual 156, 3) := by decide +kernel
theorem dX5_rises_5 : decode cX5_rises 5 = .ok (.istore_n 2, 1) := by decide +kernel
theorem dX5_rises_6 : decode cX5_rises 6 = .ok (.iload_n 2, 1) := by decide +kernel
theorem dX5_rises_7 : decode cX5_rises 7 = .ok (.ifCond .ge 9, 3) := by decide +kernel
theorem dX5_rises_10 : decode cX5_rises 10 = .ok (.aload_n 0, 1) := by decide +kernel
theorem dX5_rises_11 : decode cX5_rises 11 = .ok (.iload_n 2, 1) := by decide +kernel
theorem dX5_rises_12 : decode cX5_rises 12 = .ok (.invokevirtual 69, 3) := by decide +kernel
theorem dX5_rises_15 : decode cX5_rises 15 = .ok (.ireturn, 1) := by decide +kernel
theorem dX5_rises_16 : decode cX5_rises 16 = .ok (.aload_n 0, 1) := by decide +kernel
theorem dX5_rises_17 : decode cX5_rises 17 = .ok (.getfield 29, 3) := by decide +kernel
theorem dX5_rises_20 : decode cX5_rises 20 = .ok (.iload_n 1, 1) := by decide +kernel
theorem dX5_rises_21 : decode cX5_rises 21 = .ok (.aaload, 1) := by decide +kernel
theorem dX5_rises_22 : decode cX5_rises 22 = .ok (.astore_n 3, 1) := by decide +kernel
theorem dX5_rises_23 : decode cX5_rises 23 = .ok (.iconst 0, 1) := by decide +kernel
theorem dX5_rises_24 : decode cX5_rises 24 = .ok (.istore 4, 2) := by decide +kernel
theorem dX5_rises_26 : decode cX5_rises 26 = .ok (.iload 4, 2) := by decide +kernel
theorem dX5_rises_28 : decode cX5_rises 28 = .ok (.iconst 1, 1) := by decide +kernel
theorem dX5_rises_29 : decode cX5_rises 29 = .ok (.iadd, 1) := by decide +kernel
theorem dX5_rises_30 : decode cX5_rises 30 = .ok (.aload_n 3, 1) := by decide +kernel
theorem dX5_rises_31 : decode cX5_rises 31 = .ok (.getfield 159, 3) := by decide +kernel
theorem dX5_rises_34 : decode cX5_rises 34 = .ok (.if_icmp .ge 24, 3) := by decide +kernel
theorem dX5_rises_37 : decode cX5_rises 37 = .ok (.aload_n 3, 1) := by decide +kernel
theorem dX5_rises_38 : decode cX5_rises 38 = .ok (.iload 4, 2) := by decide +kernel
theorem dX5_rises_40 : decode cX5_rises 40 = .ok (.iload 4, 2) := by decide +kernel
theorem dX5_rises_42 : decode cX5_rises 42 = .ok (.iconst 1, 1) := by decide +kernel
theorem dX5_rises_43 : decode cX5_rises 43 = .ok (.iadd, 1) := by decide +kernel
theorem dX5_rises_44 : decode cX5_rises 44 = .ok (.invokevirtual 173, 3) := by decide +kernel
theorem dX5_rises_47 : decode cX5_rises 47 = .ok (.ifCond .le 5, 3) := by decide +kernel
theorem dX5_rises_50 : decode cX5_rises 50 = .ok (.iconst 0, 1) := by decide +kernel
theorem dX5_rises_51 : decode cX5_rises 51 = .ok (.ireturn, 1) := by decide +kernel
theorem dX5_rises_52 : decode cX5_rises 52 = .ok (.iinc 4 1, 3) := by decide +kernel
theorem dX5_rises_55 : decode cX5_rises 55 = .ok (.goto (-29), 3) := by decide +kernel
theorem dX5_rises_58 : decode cX5_rises 58 = .ok (.iconst 1, 1) := by decide +kernel
theorem dX5_rises_59 : decode cX5_rises 59 = .ok (.ireturn, 1) := by decide +kernel
set_option maxRecDepth 20000 in
theorem ggX5_order_X5_findingOfLoad : GoodIn wsX5_order wsX5_findingOfLoad := goodIn_r _ [6, 1, 7, 8, 9, 10, 5, 11, 12, 13, 14, 15, 16, 17, 18, 19, 20, 40, 41, 42, 43, 44, 45, 46, 47, 48, 49, 50, 51, 52, 53] (by decide +kernel) (by decide +kernel)
set_option maxRecDepth 20000 in
theorem gX5_order_X5_findingOfLoad : GoodIn wsX5_order (wsV RX5 128 RX5 yX5_findingOfLoad wsX5_findingOfLoad) := goodIn_app (goodIn_of _ (by decide +kernel)) ggX5_order_X5_findingOfLoad
set_option maxRecDepth 20000 in
theorem ggX5_order_X5_finding : GoodIn wsX5_order wsX5_finding := goodIn_r _ [24, 25, 40, 41, 42, 43, 44, 45, 46, 47, 48, 49, 50] (by decide +kernel) (by decide +kernel)
set_option maxRecDepth 20000 in
theorem gX5_order_X5_finding : GoodIn wsX5_order (wsV RX5 69 RX5 yX5_finding wsX5_finding) := goodIn_app (goodIn_of _ (by decide +kernel)) ggX5_order_X5_finding
set_option maxRecDepth 20000 in
theorem ggX5_order_X1_compare : GoodIn wsX5_order wsX1_compare := goodIn_r _ [29, 30, 31, 32, 33, 18, 34, 20, 35, 36, 37, 38, 39, 51, 52, 53] (by decide +kernel) (by decide +kernel)
set_option maxRecDepth 20000 in
theorem gX5_order_X1_compare : GoodIn wsX5_order (wsV RX5 173 RX1 yX1_compare wsX1_compare) := goodIn_app (goodIn_of _ (by decide +kernel)) ggX5_order_X1_compare
theorem dX5_order_0 : decode cX5_order 0 = .ok (.aload_n 0, 1) := by decide +kernel
theorem dX5_order_1 : decode cX5_order 1 = .ok (.iload_n 1, 1) := by decide +kernel
theorem dX5_order_2 : decode cX5_order 2 = .ok (.iload_n 2, 1) := by decide +kernel
theorem dX5_order_3 : decode cX5_order 3 = .ok (.invokevirtual 128, 3) := by decide +kernel
theorem dX5_order_6 : decode cX5_order 6 = .ok (.istore 4, 2) := by decide +kernel
theorem dX5_order_8 : decode cX5_order 8 = .ok (.iload 4, 2) := by decide +kernel
theorem dX5_order_10 : decode cX5_order 10 = .ok (.ifCond .ne 11, 3) := by decide +kernel
theorem dX5_order_13 : decode cX5_order 13 = .ok (.aload_n 0, 1) := by decide +kernel
theorem dX5_order_14 : decode cX5_order 14 = .ok (.iload_n 1, 1) := by decide +kernel
theorem dX5_order_15 : decode cX5_order 15 = .ok (.iload_n 3, 1) := by decide +kernel
theorem dX5_order_16 : decode cX5_order 16 = .ok (.invokevirtual 128, 3) := by decide +kernel
theorem dX5_order_19 : decode cX5_order 19 = .ok (.istore 4, 2) := by decide +kernel
theorem dX5_order_21 : decode cX5_order 21 = .ok (.iload 4, 2) := by decide +kernel
theorem dX5_order_23 : decode cX5_order 23 = .ok (.ifCond .ge 10, 3) := by decide +kernel
theorem dX5_order_26 : decode cX5_order 26 = .ok (.aload_n 0, 1) := by decide +kernel
theorem dX5_order_27 : decode cX5_order 27 = .ok (.iload 4, 2) := by decide +kernel
theorem dX5_order_29 : decode cX5_order 29 = .ok (.invokevirtual 69, 3) := by decide +kernel
theorem dX5_order_32 : decode cX5_order 32 = .ok (.ireturn, 1) := by decide +kernel
theorem dX5_order_33 : decode cX5_order 33 = .ok (.aload_n 0, 1) := by decide +kernel
theorem dX5_order_34 : decode cX5_order 34 = .ok (.getfield 29, 3) := by decide +kernel
theorem dX5_order_37 : decode cX5_order 37 = .ok (.iload_n 1, 1) := by decide +kernel
theorem dX5_order_38 : decode cX5_order 38 = .ok (.aaload, 1) := by decide +kernel
theorem dX5_order_39 : decode cX5_order 39 = .ok (.iload_n 2, 1) := by decide +kernel
theorem dX5_order_40 : decode cX5_order 40 = .ok (.iload_n 3, 1) := by decide +kernel
theorem dX5_order_41 : decode cX5_order 41 = .ok (.invokevirtual 173, 3) := by decide +kernel
theorem dX5_order_44 : decode cX5_order 44 = .ok (.istore 5, 2) := by decide +kernel
theorem dX5_order_46 : decode cX5_order 46 = .ok (.iload 5, 2) := by decide +kernel
theorem dX5_order_48 : decode cX5_order 48 = .ok (.ifCond .ne 6, 3) := by decide +kernel
theorem dX5_order_51 : decode cX5_order 51 = .ok (.bipush 10, 2) := by decide +kernel
theorem dX5_order_53 : decode cX5_order 53 = .ok (.ireturn, 1) := by decide +kernel
theorem dX5_order_54 : decode cX5_order 54 = .ok (.iload 5, 2) := by decide +kernel
theorem dX5_order_56 : decode cX5_order 56 = .ok (.ifCond .ge 8, 3) := by decide +kernel
theorem dX5_order_59 : decode cX5_order 59 = .ok (.bipush 9, 2) := by decide +kernel
theorem dX5_order_61 : decode cX5_order 61 = .ok (.goto 5, 3) := by decide +kernel
theorem dX5_order_64 : decode cX5_order 64 = .ok (.bipush 11, 2) := by decide +kernel
theorem dX5_order_66 : decode cX5_order 66 = .ok (.ireturn, 1) := by decide +kernel
set_option maxRecDepth 20000 in
theorem ggX5_out_X5_finding : GoodIn wsX5_out wsX5_finding := goodIn_r _ [8, 9, 61, 62, 63, 64, 65, 66, 67, 68, 69, 70, 71] (by decide +kernel) (by decide +kernel)
set_option maxRecDepth 20000 in
theorem gX5_out_X5_finding : GoodIn wsX5_out (wsV RX5 69 RX5 yX5_finding wsX5_finding) := goodIn_app (goodIn_of _ (by decide +kernel)) ggX5_out_X5_finding
set_option maxRecDepth 20000 in
theorem ggX5_out_X4_start : GoodIn wsX5_out wsX4_start := goodIn_r _ [14, 15, 16, 17, 18, 19, 13, 20, 21, 75, 76] (by decide +kernel) (by decide +kernel)
set_option maxRecDepth 20000 in
theorem gX5_out_X4_start : GoodIn wsX5_out (wsV RX5 176 RX4 yX4_start wsX4_start) := goodIn_app (goodIn_of _ (by decide +kernel)) ggX5_out_X4_start
set_option maxRecDepth 20000 in
theorem ggX5_out_X4_pass : GoodIn wsX5_out wsX4_pass := goodIn_r _ [25, 26, 27, 28, 29, 30, 31, 32, 33, 34, 35, 36, 37, 38, 39, 40, 41, 42, 43, 44, 45, 46, 47, 48, 49, 50, 51, 13, 52, 17, 53, 54, 55, 56, 15, 16, 72, 73, 74, 75, 76] (by decide +kernel) (by decide +kernel)
set_option maxRecDepth 20000 in
theorem gX5_out_X4_pass : GoodIn wsX5_out (wsV RX5 179 RX4 yX4_pass wsX4_pass) := goodIn_app (goodIn_of _ (by decide +kernel)) ggX5_out_X4_pass
set_option maxRecDepth 20000 in
theorem ggX5_out_X4_numberOf : GoodIn wsX5_out wsX4_numberOf := goodIn_r _ [60, 17, 75, 76] (by decide +kernel) (by decide +kernel)
set_option maxRecDepth 20000 in
theorem gX5_out_X4_numberOf : GoodIn wsX5_out (wsV RX5 183 RX4 yX4_numberOf wsX4_numberOf) := goodIn_app (goodIn_of _ (by decide +kernel)) ggX5_out_X4_numberOf
theorem dX5_out_0 : decode cX5_out 0 = .ok (.iload_n 1, 1) := by decide +kernel
theorem dX5_out_1 : decode cX5_out 1 = .ok (.ifCond .lt 16, 3) := by decide +kernel
theorem dX5_out_4 : decode cX5_out 4 = .ok (.iload_n 1, 1) := by decide +kernel
theorem dX5_out_5 : decode cX5_out 5 = .ok (.iconst 1, 1) := by decide +kernel
theorem dX5_out_6 : decode cX5_out 6 = .ok (.aload_n 0, 1) := by decide +kernel
theorem dX5_out_7 : decode cX5_out 7 = .ok (.getfield 10, 3) := by decide +kernel
theorem dX5_out_10 : decode cX5_out 10 = .ok (.getfield 160, 3) := by decide +kernel
theorem dX5_out_13 : decode cX5_out 13 = .ok (.ishl, 1) := by decide +kernel
theorem dX5_out_14 : decode cX5_out 14 = .ok (.if_icmp .lt 9, 3) := by decide +kernel
theorem dX5_out_17 : decode cX5_out 17 = .ok (.aload_n 0, 1) := by decide +kernel
theorem dX5_out_18 : decode cX5_out 18 = .ok (.iconst (-1), 1) := by decide +kernel
theorem dX5_out_19 : decode cX5_out 19 = .ok (.invokevirtual 69, 3) := by decide +kernel
theorem dX5_out_22 : decode cX5_out 22 = .ok (.ireturn, 1) := by decide +kernel
theorem dX5_out_23 : decode cX5_out 23 = .ok (.aload_n 0, 1) := by decide +kernel
theorem dX5_out_24 : decode cX5_out 24 = .ok (.getfield 36, 3) := by decide +kernel
theorem dX5_out_27 : decode cX5_out 27 = .ok (.aload_n 0, 1) := by decide +kernel
theorem dX5_out_28 : decode cX5_out 28 = .ok (.getfield 10, 3) := by decide +kernel
theorem dX5_out_31 : decode cX5_out 31 = .ok (.getfield 160, 3) := by decide +kernel
theorem dX5_out_34 : decode cX5_out 34 = .ok (.iload_n 1, 1) := by decide +kernel
theorem dX5_out_35 : decode cX5_out 35 = .ok (.bipush 64, 2) := by decide +kernel
theorem dX5_out_37 : decode cX5_out 37 = .ok (.idiv, 1) := by decide +kernel
theorem dX5_out_38 : decode cX5_out 38 = .ok (.invokevirtual 176, 3) := by decide +kernel
theorem dX5_out_41 : decode cX5_out 41 = .ok (.aload_n 0, 1) := by decide +kernel
theorem dX5_out_42 : decode cX5_out 42 = .ok (.getfield 36, 3) := by decide +kernel
theorem dX5_out_45 : decode cX5_out 45 = .ok (.aload_n 0, 1) := by decide +kernel
theorem dX5_out_46 : decode cX5_out 46 = .ok (.getfield 10, 3) := by decide +kernel
theorem dX5_out_49 : decode cX5_out 49 = .ok (.iconst (-1), 1) := by decide +kernel
theorem dX5_out_50 : decode cX5_out 50 = .ok (.invokevirtual 179, 3) := by decide +kernel
theorem dX5_out_53 : decode cX5_out 53 = .ok (.aload_n 0, 1) := by decide +kernel
theorem dX5_out_54 : decode cX5_out 54 = .ok (.getfield 36, 3) := by decide +kernel
theorem dX5_out_57 : decode cX5_out 57 = .ok (.iload_n 1, 1) := by decide +kernel
theorem dX5_out_58 : decode cX5_out 58 = .ok (.bipush 64, 2) := by decide +kernel
theorem dX5_out_60 : decode cX5_out 60 = .ok (.irem, 1) := by decide +kernel
theorem dX5_out_61 : decode cX5_out 61 = .ok (.aload_n 0, 1) := by decide +kernel
theorem dX5_out_62 : decode cX5_out 62 = .ok (.getfield 10, 3) := by decide +kernel
theorem dX5_out_65 : decode cX5_out 65 = .ok (.getfield 160, 3) := by decide +kernel
theorem dX5_out_68 : decode cX5_out 68 = .ok (.invokevirtual 183, 3) := by decide +kernel
theorem dX5_out_71 : decode cX5_out 71 = .ok (.ireturn, 1) := by decide +kernel
set_option maxRecDepth 20000 in
theorem ggX5_sorts_X5_leastFailing : GoodIn wsX5_sorts wsX5_leastFailing := goodIn_r _ [5, 6, 7, 8, 9, 10, 11, 12, 13, 14, 4, 15, 16, 17, 18, 19, 20, 21, 22, 23, 24, 25, 26, 27, 28, 29, 30, 31, 32, 33, 34, 35, 36, 37, 38, 39, 40, 41, 42, 43, 44, 45, 46, 47, 48, 49, 50, 51, 52, 53, 54, 55, 56, 57, 58, 59, 60, 61, 62, 63, 64, 65, 66, 67, 68, 69, 70, 71, 72, 73, 74, 75, 76, 77, 78, 79, 80, 81, 82, 83, 84, 85, 86, 87, 88, 89, 90, 91, 92] (by decide +kernel) (by decide +kernel)
set_option maxRecDepth 20000 in
theorem gX5_sorts_X5_leastFailing : GoodIn wsX5_sorts (wsV RX5 186 RX5 yX5_leastFailing wsX5_leastFailing) := goodIn_app (goodIn_of _ (by decide +kernel)) ggX5_sorts_X5_leastFailing
theorem dX5_sorts_0 : decode cX5_sorts 0 = .ok (.aload_n 0, 1) := by decide +kernel
theorem dX5_sorts_1 : decode cX5_sorts 1 = .ok (.iconst (-1), 1) := by decide +kernel
theorem dX5_sorts_2 : decode cX5_sorts 2 = .ok (.invokevirtual 186, 3) := by decide +kernel
theorem dX5_sorts_5 : decode cX5_sorts 5 = .ok (.bipush (-6), 2) := by decide +kernel
theorem dX5_sorts_7 : decode cX5_sorts 7 = .ok (.if_icmp .ne 7, 3) := by decide +kernel
theorem dX5_sorts_10 : decode cX5_sorts 10 = .ok (.iconst 1, 1) := by decide +kernel
theorem dX5_sorts_11 : decode cX5_sorts 11 = .ok (.goto 4, 3) := by decide +kernel
theorem dX5_sorts_14 : decode cX5_sorts 14 = .ok (.iconst 0, 1) := by decide +kernel
theorem dX5_sorts_15 : decode cX5_sorts 15 = .ok (.ireturn, 1) := by decide +kernel
set_option maxRecDepth 20000 in
theorem ggX5_fails_X5_leastFailing : GoodIn wsX5_fails wsX5_leastFailing := goodIn_r _ [7, 1, 2, 8, 9, 10, 11, 12, 13, 14, 6, 15, 16, 17, 18, 19, 20, 21, 22, 23, 24, 25, 26, 27, 28, 29, 30, 31, 32, 33, 34, 35, 36, 37, 38, 39, 40, 41, 42, 43, 44, 45, 46, 47, 48, 49, 50, 51, 52, 53, 54, 55, 56, 57, 58, 59, 60, 61, 62, 63, 64, 65, 66, 67, 68, 69, 70, 71, 72, 73, 74, 75, 76, 87, 88, 89, 90, 91, 92, 93, 94, 95, 96, 97, 98, 99, 100, 101, 102] (by decide +kernel) (by decide +kernel)
set_option maxRecDepth 20000 in
theorem gX5_fails_X5_leastFailing : GoodIn wsX5_fails (wsV RX5 186 RX5 yX5_leastFailing wsX5_leastFailing) := goodIn_app (goodIn_of _ (by decide +kernel)) ggX5_fails_X5_leastFailing
set_option maxRecDepth 20000 in
theorem ggX5_fails_X5_toldOrFinding : GoodIn wsX5_fails wsX5_toldOrFinding := goodIn_r _ [80, 81, 82, 83, 6, 84, 85, 87, 88, 89, 90, 91, 92, 93, 94, 95, 96, 97] (by decide +kernel) (by decide +kernel)
set_option maxRecDepth 20000 in
theorem gX5_fails_X5_toldOrFinding : GoodIn wsX5_fails (wsV RX5 189 RX5 yX5_toldOrFinding wsX5_toldOrFinding) := goodIn_app (goodIn_of _ (by decide +kernel)) ggX5_fails_X5_toldOrFinding
set_option maxRecDepth 20000 in
theorem ggX5_fails_X4_blocks : GoodIn wsX5_fails wsX4_blocks := goodIn_r _ [11] (by decide +kernel) (by decide +kernel)
set_option maxRecDepth 20000 in
theorem gX5_fails_X4_blocks : GoodIn wsX5_fails (va_wsS RX5 192 yX4_blocks wsX4_blocks) := goodIn_app (goodIn_of _ (by decide +kernel)) ggX5_fails_X4_blocks
set_option maxRecDepth 20000 in
theorem ggX5_fails_X5_failingRows : GoodIn wsX5_fails wsX5_failingRows := goodIn_r _ [15, 16, 1, 2, 17, 18, 19, 10, 20, 21, 22, 23, 24, 25, 26, 27, 28, 29, 30, 31, 32, 33, 34, 35, 36, 37, 38, 39, 40, 41, 42, 43, 44, 45, 46, 47, 48, 49, 50, 51, 52, 53, 54, 55, 56, 57, 58, 59, 60, 61, 62, 63, 64, 65, 66, 87, 88, 89, 90, 91, 92, 93, 94, 95, 96, 97, 98, 99, 100, 101, 102] (by decide +kernel) (by decide +kernel)
set_option maxRecDepth 20000 in
theorem gX5_fails_X5_failingRows : GoodIn wsX5_fails (wsV RX5 195 RX5 yX5_failingRows wsX5_failingRows) := goodIn_app (goodIn_of _ (by decide +kernel)) ggX5_fails_X5_failingRows
set_option maxRecDepth 20000 in
theorem ggX5_fails_J13_bitCount_95d88 : GoodIn wsX5_fails wsJ13_bitCount_95d88 := goodIn_r _ [73, 74, 75, 76] (by decide +kernel) (by decide +kernel)
set_option maxRecDepth 20000 in
theorem gX5_fails_J13_bitCount_95d88 : GoodIn wsX5_fails (va_wsS RX5 199 yJ13_bitCount_95d88 wsJ13_bitCount_95d88) := goodIn_app (goodIn_of _ (by decide +kernel)) ggX5_fails_J13_bitCount_95d88
theorem dX5_fails_0 : decode cX5_fails 0 = .ok (.iload_n 1, 1) := by decide +kernel
theorem dX5_fails_1 : decode cX5_fails 1 = .ok (.ifCond .eq 13, 3) := by decide +kernel
theorem dX5_fails_4 : decode cX5_fails 4 = .ok (.aload_n 0, 1) := by decide +kernel
theorem dX5_fails_5 : decode cX5_fails 5 = .ok (.aload_n 0, 1) := by decide +kernel
theorem dX5_fails_6 : decode cX5_fails 6 = .ok (.iconst (-1), 1) := by decide +kernel
theorem dX5_fails_7 : decode cX5_fails 7 = .ok (.invokevirtual 186, 3) := by decide +kernel
theorem dX5_fails_10 : decode cX5_fails 10 = .ok (.invokevirtual 189, 3) := by decide +kernel
theorem dX5_fails_13 : decode cX5_fails 13 = .ok (.ireturn, 1) := by decide +kernel
theorem dX5_fails_14 : decode cX5_fails 14 = .ok (.iconst 0, 1) := by decide +kernel
theorem dX5_fails_15 : decode cX5_fails 15 = .ok (.istore_n 2, 1) := by decide +kernel
theorem dX5_fails_16 : decode cX5_fails 16 = .ok (.iconst 0, 1) := by decide +kernel
theorem dX5_fails_17 : decode cX5_fails 17 = .ok (.istore_n 3, 1) := by decide +kernel
theorem dX5_fails_18 : decode cX5_fails 18 = .ok (.iload_n 3, 1) := by decide +kernel
theorem dX5_fails_19 : decode cX5_fails 19 = .ok (.aload_n 0, 1) := by decide +kernel
theorem dX5_fails_20 : decode cX5_fails 20 = .ok (.getfield 10, 3) := by decide +kernel
theorem dX5_fails_23 : decode cX5_fails 23 = .ok (.getfield 160, 3) := by decide +kernel
theorem dX5_fails_26 : decode cX5_fails 26 = .ok (.invokestatic 192, 3) := by decide +kernel
theorem dX5_fails_29 : decode cX5_fails 29 = .ok (.if_icmp .ge 21, 3) := by decide +kernel
theorem dX5_fails_32 : decode cX5_fails 32 = .ok (.iload_n 2, 1) := by decide +kernel
theorem dX5_fails_33 : decode cX5_fails 33 = .ok (.aload_n 0, 1) := by decide +kernel
theorem dX5_fails_34 : decode cX5_fails 34 = .ok (.iload_n 3, 1) := by decide +kernel
theorem dX5_fails_35 : decode cX5_fails 35 = .ok (.iconst (-1), 1) := by decide +kernel
theorem dX5_fails_36 : decode cX5_fails 36 = .ok (.invokevirtual 195, 3) := by decide +kernel
theorem dX5_fails_39 : decode cX5_fails 39 = .ok (.invokestatic 199, 3) := by decide +kernel
theorem dX5_fails_42 : decode cX5_fails 42 = .ok (.iadd, 1) := by decide +kernel
theorem dX5_fails_43 : decode cX5_fails 43 = .ok (.istore_n 2, 1) := by decide +kernel
theorem dX5_fails_44 : decode cX5_fails 44 = .ok (.iinc 3 1, 3) := by decide +kernel
theorem dX5_fails_47 : decode cX5_fails 47 = .ok (.goto (-29), 3) := by decide +kernel
theorem dX5_fails_50 : decode cX5_fails 50 = .ok (.iload_n 2, 1) := by decide +kernel
theorem dX5_fails_51 : decode cX5_fails 51 = .ok (.ireturn, 1) := by decide +kernel
set_option maxRecDepth 20000 in
theorem ggX5_merges_X5_finding : GoodIn wsX5_merges wsX5_finding := goodIn_r _ [9, 10, 65, 66, 67, 68, 69, 70, 71, 72, 73, 74, 75] (by decide +kernel) (by decide +kernel)
set_option maxRecDepth 20000 in
theorem gX5_merges_X5_finding : GoodIn wsX5_merges (wsV RX5 69 RX5 yX5_finding wsX5_finding) := goodIn_app (goodIn_of _ (by decide +kernel)) ggX5_merges_X5_finding
set_option maxRecDepth 20000 in
theorem ggX5_merges_X4_blocks : GoodIn wsX5_merges wsX4_blocks := goodIn_r _ [14] (by decide +kernel) (by decide +kernel)
set_option maxRecDepth 20000 in
theorem gX5_merges_X4_blocks : GoodIn wsX5_merges (va_wsS RX5 192 yX4_blocks wsX4_blocks) := goodIn_app (goodIn_of _ (by decide +kernel)) ggX5_merges_X4_blocks
set_option maxRecDepth 20000 in
theorem ggX5_merges_X4_start : GoodIn wsX5_merges wsX4_start := goodIn_r _ [18, 19, 20, 21, 22, 23, 13, 24, 25, 79, 80] (by decide +kernel) (by decide +kernel)
set_option maxRecDepth 20000 in
theorem gX5_merges_X4_start : GoodIn wsX5_merges (wsV RX5 176 RX4 yX4_start wsX4_start) := goodIn_app (goodIn_of _ (by decide +kernel)) ggX5_merges_X4_start
set_option maxRecDepth 20000 in
theorem ggX5_merges_X4_falling : GoodIn wsX5_merges wsX4_falling := goodIn_r _ [29, 21, 19, 79, 80] (by decide +kernel) (by decide +kernel)
set_option maxRecDepth 20000 in
theorem gX5_merges_X4_falling : GoodIn wsX5_merges (wsV RX5 205 RX4 yX4_falling wsX4_falling) := goodIn_app (goodIn_of _ (by decide +kernel)) ggX5_merges_X4_falling
set_option maxRecDepth 20000 in
theorem ggX5_merges_X4_pass : GoodIn wsX5_merges wsX4_pass := goodIn_r _ [33, 34, 35, 36, 37, 38, 39, 40, 41, 42, 43, 44, 45, 46, 47, 48, 49, 50, 51, 52, 53, 54, 55, 56, 57, 58, 59, 13, 60, 21, 61, 62, 63, 64, 19, 20, 76, 77, 78, 79, 80] (by decide +kernel) (by decide +kernel)
set_option maxRecDepth 20000 in
theorem gX5_merges_X4_pass : GoodIn wsX5_merges (wsV RX5 179 RX4 yX4_pass wsX4_pass) := goodIn_app (goodIn_of _ (by decide +kernel)) ggX5_merges_X4_pass
theorem dX5_merges_0 : decode cX5_merges 0 = .ok (.iload_n 1, 1) := by decide +kernel
theorem dX5_merges_1 : decode cX5_merges 1 = .ok (.iconst 1, 1) := by decide +kernel
theorem dX5_merges_2 : decode cX5_merges 2 = .ok (.if_icmp .lt 14, 3) := by decide +kernel
theorem dX5_merges_5 : decode cX5_merges 5 = .ok (.iload_n 1, 1) := by decide +kernel
theorem dX5_merges_6 : decode cX5_merges 6 = .ok (.aload_n 0, 1) := by decide +kernel
theorem dX5_merges_7 : decode cX5_merges 7 = .ok (.getfield 10, 3) := by decide +kernel
theorem dX5_merges_10 : decode cX5_merges 10 = .ok (.getfield 160, 3) := by decide +kernel
theorem dX5_merges_13 : decode cX5_merges 13 = .ok (.if_icmp .lt 9, 3) := by decide +kernel
theorem dX5_merges_16 : decode cX5_merges 16 = .ok (.aload_n 0, 1) := by decide +kernel
theorem dX5_merges_17 : decode cX5_merges 17 = .ok (.iconst (-1), 1) := by decide +kernel
theorem dX5_merges_18 : decode cX5_merges 18 = .ok (.invokevirtual 69, 3) := by decide +kernel
theorem dX5_merges_21 : decode cX5_merges 21 = .ok (.ireturn, 1) := by decide +kernel
theorem dX5_merges_22 : decode cX5_merges 22 = .ok (.iconst 0, 1) := by decide +kernel
theorem dX5_merges_23 : decode cX5_merges 23 = .ok (.istore_n 2, 1) := by decide +kernel
theorem dX5_merges_24 : decode cX5_merges 24 = .ok (.iload_n 2, 1) := by decide +kernel
theorem dX5_merges_25 : decode cX5_merges 25 = .ok (.aload_n 0, 1) := by decide +kernel
theorem dX5_merges_26 : decode cX5_merges 26 = .ok (.getfield 10, 3) := by decide +kernel
theorem dX5_merges_29 : decode cX5_merges 29 = .ok (.getfield 160, 3) := by decide +kernel
theorem dX5_merges_32 : decode cX5_merges 32 = .ok (.invokestatic 192, 3) := by decide +kernel
theorem dX5_merges_35 : decode cX5_merges 35 = .ok (.if_icmp .ge 90, 3) := by decide +kernel
theorem dX5_merges_38 : decode cX5_merges 38 = .ok (.aload_n 0, 1) := by decide +kernel
theorem dX5_merges_39 : decode cX5_merges 39 = .ok (.getfield 36, 3) := by decide +kernel
theorem dX5_merges_42 : decode cX5_merges 42 = .ok (.aload_n 0, 1) := by decide +kernel
theorem dX5_merges_43 : decode cX5_merges 43 = .ok (.getfield 10, 3) := by decide +kernel
theorem dX5_merges_46 : decode cX5_merges 46 = .ok (.getfield 160, 3) := by decide +kernel
theorem dX5_merges_49 : decode cX5_merges 49 = .ok (.iload_n 2, 1) := by decide +kernel
theorem dX5_merges_50 : decode cX5_merges 50 = .ok (.invokevirtual 176, 3) := by decide +kernel
theorem dX5_merges_53 : decode cX5_merges 53 = .ok (.aload_n 0, 1) := by decide +kernel
theorem dX5_merges_54 : decode cX5_merges 54 = .ok (.getfield 36, 3) := by decide +kernel
theorem dX5_merges_57 : decode cX5_merges 57 = .ok (.iconst 0, 1) := by decide +kernel
theorem dX5_merges_58 : decode cX5_merges 58 = .ok (.iload_n 1, 1) := by decide +kernel
theorem dX5_merges_59 : decode cX5_merges 59 = .ok (.invokevirtual 205, 3) := by decide +kernel
theorem dX5_merges_62 : decode cX5_merges 62 = .ok (.aload_n 0, 1) := by decide +kernel
theorem dX5_merges_63 : decode cX5_merges 63 = .ok (.getfield 36, 3) := by decide +kernel
theorem dX5_merges_66 : decode cX5_merges 66 = .ok (.iload_n 1, 1) := by decide +kernel
theorem dX5_merges_67 : decode cX5_merges 67 = .ok (.aload_n 0, 1) := by decide +kernel
theorem dX5_merges_68 : decode cX5_merges 68 = .ok (.getfield 10, 3) := by decide +kernel
theorem dX5_merges_71 : decode cX5_merges 71 = .ok (.getfield 160, 3) := by decide +kernel
theorem dX5_merges_74 : decode cX5_merges 74 = .ok (.invokevirtual 205, 3) := by decide +kernel
theorem dX5_merges_77 : decode cX5_merges 77 = .ok (.lor, 1) := by decide +kernel
theorem dX5_merges_78 : decode cX5_merges 78 = .ok (.lstore_n 3, 1) := by decide +kernel
theorem dX5_merges_79 : decode cX5_merges 79 = .ok (.aload_n 0, 1) := by decide +kernel
theorem dX5_merges_80 : decode cX5_merges 80 = .ok (.getfield 36, 3) := by decide +kernel
theorem dX5_merges_83 : decode cX5_merges 83 = .ok (.aload_n 0, 1) := by decide +kernel
theorem dX5_merges_84 : decode cX5_merges 84 = .ok (.getfield 10, 3) := by decide +kernel
theorem dX5_merges_87 : decode cX5_merges 87 = .ok (.iconst (-1), 1) := by decide +kernel
theorem dX5_merges_88 : decode cX5_merges 88 = .ok (.invokevirtual 179, 3) := by decide +kernel
theorem dX5_merges_91 : decode cX5_merges 91 = .ok (.aload_n 0, 1) := by decide +kernel
theorem dX5_merges_92 : decode cX5_merges 92 = .ok (.getfield 36, 3) := by decide +kernel
theorem dX5_merges_95 : decode cX5_merges 95 = .ok (.iconst 0, 1) := by decide +kernel
theorem dX5_merges_96 : decode cX5_merges 96 = .ok (.aload_n 0, 1) := by decide +kernel
theorem dX5_merges_97 : decode cX5_merges 97 = .ok (.getfield 10, 3) := by decide +kernel
theorem dX5_merges_100 : decode cX5_merges 100 = .ok (.getfield 160, 3) := by decide +kernel
theorem dX5_merges_103 : decode cX5_merges 103 = .ok (.invokevirtual 205, 3) := by decide +kernel
theorem dX5_merges_106 : decode cX5_merges 106 = .ok (.lload_n 3, 1) := by decide +kernel
theorem dX5_merges_107 : decode cX5_merges 107 = .ok (.ldc2_w 208, 3) := by decide +kernel
theorem dX5_merges_110 : decode cX5_merges 110 = .ok (.lxor, 1) := by decide +kernel
theorem dX5_merges_111 : decode cX5_merges 111 = .ok (.land, 1) := by decide +kernel
theorem dX5_merges_112 : decode cX5_merges 112 = .ok (.lconst 0, 1) := by decide +kernel
theorem dX5_merges_113 : decode cX5_merges 113 = .ok (.lcmp, 1) := by decide +kernel
theorem dX5_merges_114 : decode cX5_merges 114 = .ok (.ifCond .eq 5, 3) := by decide +kernel
theorem dX5_merges_117 : decode cX5_merges 117 = .ok (.iconst 0, 1) := by decide +kernel
theorem dX5_merges_118 : decode cX5_merges 118 = .ok (.ireturn, 1) := by decide +kernel
theorem dX5_merges_119 : decode cX5_merges 119 = .ok (.iinc 2 1, 3) := by decide +kernel
theorem dX5_merges_122 : decode cX5_merges 122 = .ok (.goto (-98), 3) := by decide +kernel
theorem dX5_merges_125 : decode cX5_merges 125 = .ok (.iconst 1, 1) := by decide +kernel
theorem dX5_merges_126 : decode cX5_merges 126 = .ok (.ireturn, 1) := by decide +kernel
set_option maxRecDepth 20000 in
theorem ggX5_idle_X3_has : GoodIn wsX5_idle wsX3_has := goodIn_r _ [6, 7, 80, 81, 82] (by decide +kernel) (by decide +kernel)
set_option maxRecDepth 20000 in
theorem gX5_idle_X3_has : GoodIn wsX5_idle (wsV RX5 91 RX3 yX3_has wsX3_has) := goodIn_app (goodIn_of _ (by decide +kernel)) ggX5_idle_X3_has
set_option maxRecDepth 20000 in
theorem ggX5_idle_X5_finding : GoodIn wsX5_idle wsX5_finding := goodIn_r _ [12, 13, 69, 70, 71, 72, 73, 74, 75, 76, 77, 78, 79] (by decide +kernel) (by decide +kernel)
set_option maxRecDepth 20000 in
theorem gX5_idle_X5_finding : GoodIn wsX5_idle (wsV RX5 69 RX5 yX5_finding wsX5_finding) := goodIn_app (goodIn_of _ (by decide +kernel)) ggX5_idle_X5_finding
set_option maxRecDepth 20000 in
theorem ggX5_idle_X5_busyComparers : GoodIn wsX5_idle wsX5_busyComparers := goodIn_r _ [17, 1, 18, 19, 20, 21, 22, 23, 24, 25, 26, 27, 28, 29, 30, 31, 32, 33, 34, 35, 36, 37, 38, 5, 39, 40, 41, 42, 43, 44, 45, 46, 47, 48, 49, 50, 51, 52, 53, 54, 55, 56, 57, 58, 59, 60, 61, 62, 63, 64, 65, 69, 70, 71, 72, 73, 74, 75, 76, 77, 78, 79, 80, 81, 82, 83, 84] (by decide +kernel) (by decide +kernel)
set_option maxRecDepth 20000 in
theorem gX5_idle_X5_busyComparers : GoodIn wsX5_idle (wsV RX5 210 RX5 yX5_busyComparers wsX5_busyComparers) := goodIn_app (goodIn_of _ (by decide +kernel)) ggX5_idle_X5_busyComparers
set_option maxRecDepth 20000 in
theorem ggX5_idle_X5_isIn : GoodIn wsX5_idle wsX5_isIn := goodIn_r _ [68] (by decide +kernel) (by decide +kernel)
set_option maxRecDepth 20000 in
theorem gX5_idle_X5_isIn : GoodIn wsX5_idle (va_wsS RX5 214 yX5_isIn wsX5_isIn) := goodIn_app (goodIn_of _ (by decide +kernel)) ggX5_idle_X5_isIn
theorem dX5_idle_0 : decode cX5_idle 0 = .ok (.aload_n 0, 1) := by decide +kernel
theorem dX5_idle_1 : decode cX5_idle 1 = .ok (.getfield 10, 3) := by decide +kernel
theorem dX5_idle_4 : decode cX5_idle 4 = .ok (.iload_n 1, 1) := by decide +kernel
theorem dX5_idle_5 : decode cX5_idle 5 = .ok (.invokevirtual 91, 3) := by decide +kernel
theorem dX5_idle_8 : decode cX5_idle 8 = .ok (.ifCond .ne 9, 3) := by decide +kernel
theorem dX5_idle_11 : decode cX5_idle 11 = .ok (.aload_n 0, 1) := by decide +kernel
theorem dX5_idle_12 : decode cX5_idle 12 = .ok (.iconst (-1), 1) := by decide +kernel
theorem dX5_idle_13 : decode cX5_idle 13 = .ok (.invokevirtual 69, 3) := by decide +kernel
theorem dX5_idle_16 : decode cX5_idle 16 = .ok (.ireturn, 1) := by decide +kernel
theorem dX5_idle_17 : decode cX5_idle 17 = .ok (.aload_n 0, 1) := by decide +kernel
theorem dX5_idle_18 : decode cX5_idle 18 = .ok (.invokevirtual 210, 3) := by decide +kernel
theorem dX5_idle_21 : decode cX5_idle 21 = .ok (.iload_n 1, 1) := by decide +kernel
theorem dX5_idle_22 : decode cX5_idle 22 = .ok (.invokestatic 214, 3) := by decide +kernel
theorem dX5_idle_25 : decode cX5_idle 25 = .ok (.ifCond .eq 7, 3) := by decide +kernel
theorem dX5_idle_28 : decode cX5_idle 28 = .ok (.iconst 0, 1) := by decide +kernel
theorem dX5_idle_29 : decode cX5_idle 29 = .ok (.goto 4, 3) := by decide +kernel
theorem dX5_idle_32 : decode cX5_idle 32 = .ok (.iconst 1, 1) := by decide +kernel
theorem dX5_idle_33 : decode cX5_idle 33 = .ok (.ireturn, 1) := by decide +kernel
set_option maxRecDepth 20000 in
theorem ggX5_drop_X5_busyComparers : GoodIn wsX5_drop wsX5_busyComparers := goodIn_r _ [9, 2, 10, 11, 3, 12, 13, 14, 15, 16, 17, 18, 19, 20, 21, 22, 23, 24, 25, 26, 27, 28, 29, 30, 31, 32, 33, 34, 35, 36, 37, 38, 39, 40, 41, 42, 43, 44, 45, 46, 47, 48, 49, 50, 51, 52, 53, 54, 55, 56, 57, 83, 84, 85, 86, 87, 88, 89, 90, 91, 92, 93, 94, 95, 96, 97, 98] (by decide +kernel) (by decide +kernel)
set_option maxRecDepth 20000 in
theorem gX5_drop_X5_busyComparers : GoodIn wsX5_drop (wsV RX5 210 RX5 yX5_busyComparers wsX5_busyComparers) := goodIn_app (goodIn_of _ (by decide +kernel)) ggX5_drop_X5_busyComparers
set_option maxRecDepth 20000 in
theorem ggX5_drop_X2_remember : GoodIn wsX5_drop wsX2_remember := goodIn_r _ [62, 63, 64, 65, 66, 67, 68, 69, 70, 71, 72, 30, 73, 74, 75, 36, 76, 77, 78, 79, 99, 100, 101, 94, 95, 96] (by decide +kernel) (by decide +kernel)
set_option maxRecDepth 20000 in
theorem gX5_drop_X2_remember : GoodIn wsX5_drop (wsV RX5 73 RX2 yX2_remember wsX2_remember) := goodIn_app (goodIn_of _ (by decide +kernel)) ggX5_drop_X2_remember
set_option maxRecDepth 20000 in
theorem ggX5_drop_X5_isIn : GoodIn wsX5_drop wsX5_isIn := goodIn_r _ [82] (by decide +kernel) (by decide +kernel)
set_option maxRecDepth 20000 in
theorem gX5_drop_X5_isIn : GoodIn wsX5_drop (va_wsS RX5 214 yX5_isIn wsX5_isIn) := goodIn_app (goodIn_of _ (by decide +kernel)) ggX5_drop_X5_isIn
theorem dX5_drop_0 : decode cX5_drop 0 = .ok (.aload_n 0, 1) := by decide +kernel
theorem dX5_drop_1 : decode cX5_drop 1 = .ok (.invokevirtual 210, 3) := by decide +kernel
theorem dX5_drop_4 : decode cX5_drop 4 = .ok (.lstore_n 1, 1) := by decide +kernel
theorem dX5_drop_5 : decode cX5_drop 5 = .ok (.aload_n 0, 1) := by decide +kernel
theorem dX5_drop_6 : decode cX5_drop 6 = .ok (.getfield 23, 3) := by decide +kernel
theorem dX5_drop_9 : decode cX5_drop 9 = .ok (.aload_n 0, 1) := by decide +kernel
theorem dX5_drop_10 : decode cX5_drop 10 = .ok (.getfield 10, 3) := by decide +kernel
theorem dX5_drop_13 : decode cX5_drop 13 = .ok (.invokevirtual 73, 3) := by decide +kernel
theorem dX5_drop_16 : decode cX5_drop 16 = .ok (.iconst 0, 1) := by decide +kernel
theorem dX5_drop_17 : decode cX5_drop 17 = .ok (.istore_n 3, 1) := by decide +kernel
theorem dX5_drop_18 : decode cX5_drop 18 = .ok (.iconst 0, 1) := by decide +kernel
theorem dX5_drop_19 : decode cX5_drop 19 = .ok (.istore 4, 2) := by decide +kernel
theorem dX5_drop_21 : decode cX5_drop 21 = .ok (.iload 4, 2) := by decide +kernel
theorem dX5_drop_23 : decode cX5_drop 23 = .ok (.aload_n 0, 1) := by decide +kernel
theorem dX5_drop_24 : decode cX5_drop 24 = .ok (.getfield 10, 3) := by decide +kernel
theorem dX5_drop_27 : decode cX5_drop 27 = .ok (.getfield 77, 3) := by decide +kernel
theorem dX5_drop_30 : decode cX5_drop 30 = .ok (.if_icmp .ge 40, 3) := by decide +kernel
theorem dX5_drop_33 : decode cX5_drop 33 = .ok (.lload_n 1, 1) := by decide +kernel
theorem dX5_drop_34 : decode cX5_drop 34 = .ok (.iload 4, 2) := by decide +kernel
theorem dX5_drop_36 : decode cX5_drop 36 = .ok (.invokestatic 214, 3) := by decide +kernel
theorem dX5_drop_39 : decode cX5_drop 39 = .ok (.ifCond .eq 25, 3) := by decide +kernel
theorem dX5_drop_42 : decode cX5_drop 42 = .ok (.aload_n 0, 1) := by decide +kernel
theorem dX5_drop_43 : decode cX5_drop 43 = .ok (.getfield 10, 3) := by decide +kernel
theorem dX5_drop_46 : decode cX5_drop 46 = .ok (.getfield 218, 3) := by decide +kernel
theorem dX5_drop_49 : decode cX5_drop 49 = .ok (.iload_n 3, 1) := by decide +kernel
theorem dX5_drop_50 : decode cX5_drop 50 = .ok (.aload_n 0, 1) := by decide +kernel
theorem dX5_drop_51 : decode cX5_drop 51 = .ok (.getfield 10, 3) := by decide +kernel
theorem dX5_drop_54 : decode cX5_drop 54 = .ok (.getfield 218, 3) := by decide +kernel
theorem dX5_drop_57 : decode cX5_drop 57 = .ok (.iload 4, 2) := by decide +kernel
theorem dX5_drop_59 : decode cX5_drop 59 = .ok (.iaload, 1) := by decide +kernel
theorem dX5_drop_60 : decode cX5_drop 60 = .ok (.iastore, 1) := by decide +kernel
theorem dX5_drop_61 : decode cX5_drop 61 = .ok (.iinc 3 1, 3) := by decide +kernel
theorem dX5_drop_64 : decode cX5_drop 64 = .ok (.iinc 4 1, 3) := by decide +kernel
theorem dX5_drop_67 : decode cX5_drop 67 = .ok (.goto (-46), 3) := by decide +kernel
theorem dX5_drop_70 : decode cX5_drop 70 = .ok (.aload_n 0, 1) := by decide +kernel
theorem dX5_drop_71 : decode cX5_drop 71 = .ok (.getfield 10, 3) := by decide +kernel
theorem dX5_drop_74 : decode cX5_drop 74 = .ok (.getfield 77, 3) := by decide +kernel
theorem dX5_drop_77 : decode cX5_drop 77 = .ok (.iload_n 3, 1) := by decide +kernel
theorem dX5_drop_78 : decode cX5_drop 78 = .ok (.isub, 1) := by decide +kernel
theorem dX5_drop_79 : decode cX5_drop 79 = .ok (.istore 4, 2) := by decide +kernel
theorem dX5_drop_81 : decode cX5_drop 81 = .ok (.aload_n 0, 1) := by decide +kernel
theorem dX5_drop_82 : decode cX5_drop 82 = .ok (.getfield 10, 3) := by decide +kernel
theorem dX5_drop_85 : decode cX5_drop 85 = .ok (.iload_n 3, 1) := by decide +kernel
theorem dX5_drop_86 : decode cX5_drop 86 = .ok (.putfield 77, 3) := by decide +kernel
theorem dX5_drop_89 : decode cX5_drop 89 = .ok (.iload 4, 2) := by decide +kernel
theorem dX5_drop_91 : decode cX5_drop 91 = .ok (.ireturn, 1) := by decide +kernel
set_option maxRecDepth 20000 in
theorem ggX5_turn_X3_actingKind : GoodIn wsX5_turn wsX3_actingKind := goodIn_r _ [16, 17, 18, 19, 15, 20, 21, 22, 23, 24, 25, 77, 78, 79] (by decide +kernel) (by decide +kernel)
set_option maxRecDepth 20000 in
theorem gX5_turn_X3_actingKind : GoodIn wsX5_turn (wsV RX5 163 RX3 yX3_actingKind wsX3_actingKind) := goodIn_app (goodIn_of _ (by decide +kernel)) ggX5_turn_X3_actingKind
set_option maxRecDepth 20000 in
theorem ggX5_turn_X5_finding : GoodIn wsX5_turn wsX5_finding := goodIn_r _ [30, 31, 66, 67, 68, 69, 70, 71, 72, 73, 74, 75, 76] (by decide +kernel) (by decide +kernel)
set_option maxRecDepth 20000 in
theorem gX5_turn_X5_finding : GoodIn wsX5_turn (wsV RX5 69 RX5 yX5_finding wsX5_finding) := goodIn_app (goodIn_of _ (by decide +kernel)) ggX5_turn_X5_finding
set_option maxRecDepth 20000 in
theorem ggX5_turn_X2_remember : GoodIn wsX5_turn wsX2_remember := goodIn_r _ [36, 37, 38, 39, 40, 6, 7, 8, 41, 42, 43, 15, 44, 45, 46, 21, 47, 48, 49, 50, 80, 81, 82, 77, 78, 79] (by decide +kernel) (by decide +kernel)
set_option maxRecDepth 20000 in
theorem gX5_turn_X2_remember : GoodIn wsX5_turn (wsV RX5 73 RX2 yX2_remember wsX2_remember) := goodIn_app (goodIn_of _ (by decide +kernel)) ggX5_turn_X2_remember
set_option maxRecDepth 20000 in
theorem ggX5_turn_X3_low : GoodIn wsX5_turn wsX3_low := goodIn_r _ [54, 21, 77, 78, 79] (by decide +kernel) (by decide +kernel)
set_option maxRecDepth 20000 in
theorem gX5_turn_X3_low : GoodIn wsX5_turn (wsV RX5 97 RX3 yX3_low wsX3_low) := goodIn_app (goodIn_of _ (by decide +kernel)) ggX5_turn_X3_low
set_option maxRecDepth 20000 in
theorem ggX5_turn_X3_high : GoodIn wsX5_turn wsX3_high := goodIn_r _ [58, 21, 77, 78, 79] (by decide +kernel) (by decide +kernel)
set_option maxRecDepth 20000 in
theorem gX5_turn_X3_high : GoodIn wsX5_turn (wsV RX5 100 RX3 yX3_high wsX3_high) := goodIn_app (goodIn_of _ (by decide +kernel)) ggX5_turn_X3_high
set_option maxRecDepth 20000 in
theorem ggX5_turn_X3_write : GoodIn wsX5_turn wsX3_write := goodIn_r _ [62, 21, 77, 78, 79] (by decide +kernel) (by decide +kernel)
set_option maxRecDepth 20000 in
theorem gX5_turn_X3_write : GoodIn wsX5_turn (wsV RX5 103 RX3 yX3_write wsX3_write) := goodIn_app (goodIn_of _ (by decide +kernel)) ggX5_turn_X3_write
set_option maxRecDepth 20000 in
theorem ggX5_turn_X5_changesPlaces : GoodIn wsX5_turn wsX5_changesPlaces := goodIn_r _ [65] (by decide +kernel) (by decide +kernel)
set_option maxRecDepth 20000 in
theorem gX5_turn_X5_changesPlaces : GoodIn wsX5_turn (va_wsS RX5 229 yX5_changesPlaces wsX5_changesPlaces) := goodIn_app (goodIn_of _ (by decide +kernel)) ggX5_turn_X5_changesPlaces
theorem dX5_turn_0 : decode cX5_turn 0 = .ok (.iconst 0, 1) := by decide +kernel
theorem dX5_turn_1 : decode cX5_turn 1 = .ok (.istore_n 1, 1) := by decide +kernel
theorem dX5_turn_2 : decode cX5_turn 2 = .ok (.iload_n 1, 1) := by decide +kernel
theorem dX5_turn_3 : decode cX5_turn 3 = .ok (.aload_n 0, 1) := by decide +kernel
theorem dX5_turn_4 : decode cX5_turn 4 = .ok (.getfield 10, 3) := by decide +kernel
theorem dX5_turn_7 : decode cX5_turn 7 = .ok (.getfield 77, 3) := by decide +kernel
theorem dX5_turn_10 : decode cX5_turn 10 = .ok (.if_icmp .ge 28, 3) := by decide +kernel
theorem dX5_turn_13 : decode cX5_turn 13 = .ok (.aload_n 0, 1) := by decide +kernel
theorem dX5_turn_14 : decode cX5_turn 14 = .ok (.getfield 10, 3) := by decide +kernel
theorem dX5_turn_17 : decode cX5_turn 17 = .ok (.iload_n 1, 1) := by decide +kernel
theorem dX5_turn_18 : decode cX5_turn 18 = .ok (.invokevirtual 163, 3) := by decide +kernel
theorem dX5_turn_21 : decode cX5_turn 21 = .ok (.iconst 2, 1) := by decide +kernel
theorem dX5_turn_22 : decode cX5_turn 22 = .ok (.if_icmp .ne 10, 3) := by decide +kernel
theorem dX5_turn_25 : decode cX5_turn 25 = .ok (.aload_n 0, 1) := by decide +kernel
theorem dX5_turn_26 : decode cX5_turn 26 = .ok (.bipush (-7), 2) := by decide +kernel
theorem dX5_turn_28 : decode cX5_turn 28 = .ok (.invokevirtual 69, 3) := by decide +kernel
theorem dX5_turn_31 : decode cX5_turn 31 = .ok (.ireturn, 1) := by decide +kernel
theorem dX5_turn_32 : decode cX5_turn 32 = .ok (.iinc 1 1, 3) := by decide +kernel
theorem dX5_turn_35 : decode cX5_turn 35 = .ok (.goto (-33), 3) := by decide +kernel
theorem dX5_turn_38 : decode cX5_turn 38 = .ok (.aload_n 0, 1) := by decide +kernel
theorem dX5_turn_39 : decode cX5_turn 39 = .ok (.getfield 23, 3) := by decide +kernel
theorem dX5_turn_42 : decode cX5_turn 42 = .ok (.aload_n 0, 1) := by decide +kernel
theorem dX5_turn_43 : decode cX5_turn 43 = .ok (.getfield 10, 3) := by decide +kernel
theorem dX5_turn_46 : decode cX5_turn 46 = .ok (.invokevirtual 73, 3) := by decide +kernel
theorem dX5_turn_49 : decode cX5_turn 49 = .ok (.iconst 0, 1) := by decide +kernel
theorem dX5_turn_50 : decode cX5_turn 50 = .ok (.istore_n 1, 1) := by decide +kernel
theorem dX5_turn_51 : decode cX5_turn 51 = .ok (.iload_n 1, 1) := by decide +kernel
theorem dX5_turn_52 : decode cX5_turn 52 = .ok (.bipush 8, 2) := by decide +kernel
theorem dX5_turn_54 : decode cX5_turn 54 = .ok (.if_icmp .ge 16, 3) := by decide +kernel
theorem dX5_turn_57 : decode cX5_turn 57 = .ok (.aload_n 0, 1) := by decide +kernel
theorem dX5_turn_58 : decode cX5_turn 58 = .ok (.getfield 50, 3) := by decide +kernel
theorem dX5_turn_61 : decode cX5_turn 61 = .ok (.iload_n 1, 1) := by decide +kernel
theorem dX5_turn_62 : decode cX5_turn 62 = .ok (.iload_n 1, 1) := by decide +kernel
theorem dX5_turn_63 : decode cX5_turn 63 = .ok (.iastore, 1) := by decide +kernel
theorem dX5_turn_64 : decode cX5_turn 64 = .ok (.iinc 1 1, 3) := by decide +kernel
theorem dX5_turn_67 : decode cX5_turn 67 = .ok (.goto (-16), 3) := by decide +kernel
theorem dX5_turn_70 : decode cX5_turn 70 = .ok (.iconst 0, 1) := by decide +kernel
theorem dX5_turn_71 : decode cX5_turn 71 = .ok (.istore_n 1, 1) := by decide +kernel
theorem dX5_turn_72 : decode cX5_turn 72 = .ok (.iconst 0, 1) := by decide +kernel
theorem dX5_turn_73 : decode cX5_turn 73 = .ok (.istore_n 2, 1) := by decide +kernel
theorem dX5_turn_74 : decode cX5_turn 74 = .ok (.iload_n 2, 1) := by decide +kernel
theorem dX5_turn_75 : decode cX5_turn 75 = .ok (.aload_n 0, 1) := by decide +kernel
theorem dX5_turn_76 : decode cX5_turn 76 = .ok (.getfield 10, 3) := by decide +kernel
theorem dX5_turn_79 : decode cX5_turn 79 = .ok (.getfield 77, 3) := by decide +kernel
theorem dX5_turn_82 : decode cX5_turn 82 = .ok (.if_icmp .ge 116, 3) := by decide +kernel
theorem dX5_turn_85 : decode cX5_turn 85 = .ok (.aload_n 0, 1) := by decide +kernel
theorem dX5_turn_86 : decode cX5_turn 86 = .ok (.getfield 10, 3) := by decide +kernel
theorem dX5_turn_89 : decode cX5_turn 89 = .ok (.iload_n 2, 1) := by decide +kernel
theorem dX5_turn_90 : decode cX5_turn 90 = .ok (.invokevirtual 163, 3) := by decide +kernel
theorem dX5_turn_93 : decode cX5_turn 93 = .ok (.istore_n 3, 1) := by decide +kernel
theorem dX5_turn_94 : decode cX5_turn 94 = .ok (.aload_n 0, 1) := by decide +kernel
theorem dX5_turn_95 : decode cX5_turn 95 = .ok (.getfield 10, 3) := by decide +kernel
theorem dX5_turn_98 : decode cX5_turn 98 = .ok (.iload_n 2, 1) := by decide +kernel
theorem dX5_turn_99 : decode cX5_turn 99 = .ok (.invokevirtual 97, 3) := by decide +kernel
theorem dX5_turn_102 : decode cX5_turn 102 = .ok (.istore 4, 2) := by decide +kernel
theorem dX5_turn_104 : decode cX5_turn 104 = .ok (.aload_n 0, 1) := by decide +kernel
theorem dX5_turn_105 : decode cX5_turn 105 = .ok (.getfield 10, 3) := by decide +kernel
theorem dX5_turn_108 : decode cX5_turn 108 = .ok (.iload_n 2, 1) := by decide +kernel
theorem dX5_turn_109 : decode cX5_turn 109 = .ok (.invokevirtual 100, 3) := by decide +kernel
theorem dX5_turn_112 : decode cX5_turn 112 = .ok (.istore 5, 2) := by decide +kernel
theorem dX5_turn_114 : decode cX5_turn 114 = .ok (.aload_n 0, 1) := by decide +kernel
theorem dX5_turn_115 : decode cX5_turn 115 = .ok (.getfield 50, 3) := by decide +kernel
theorem dX5_turn_118 : decode cX5_turn 118 = .ok (.iload 4, 2) := by decide +kernel
theorem dX5_turn_120 : decode cX5_turn 120 = .ok (.iaload, 1) := by decide +kernel
theorem dX5_turn_121 : decode cX5_turn 121 = .ok (.istore 6, 2) := by decide +kernel
theorem dX5_turn_123 : decode cX5_turn 123 = .ok (.aload_n 0, 1) := by decide +kernel
theorem dX5_turn_124 : decode cX5_turn 124 = .ok (.getfield 50, 3) := by decide +kernel
theorem dX5_turn_127 : decode cX5_turn 127 = .ok (.iload 5, 2) := by decide +kernel
theorem dX5_turn_129 : decode cX5_turn 129 = .ok (.iaload, 1) := by decide +kernel
theorem dX5_turn_130 : decode cX5_turn 130 = .ok (.istore 7, 2) := by decide +kernel
theorem dX5_turn_132 : decode cX5_turn 132 = .ok (.iload_n 3, 1) := by decide +kernel
theorem dX5_turn_133 : decode cX5_turn 133 = .ok (.iconst 3, 1) := by decide +kernel
theorem dX5_turn_134 : decode cX5_turn 134 = .ok (.if_icmp .eq 29, 3) := by decide +kernel
theorem dX5_turn_137 : decode cX5_turn 137 = .ok (.aload_n 0, 1) := by decide +kernel
theorem dX5_turn_138 : decode cX5_turn 138 = .ok (.getfield 10, 3) := by decide +kernel
theorem dX5_turn_141 : decode cX5_turn 141 = .ok (.iload_n 1, 1) := by decide +kernel
theorem dX5_turn_142 : decode cX5_turn 142 = .ok (.iconst 0, 1) := by decide +kernel
theorem dX5_turn_143 : decode cX5_turn 143 = .ok (.iload 6, 2) := by decide +kernel
theorem dX5_turn_145 : decode cX5_turn 145 = .ok (.iload 7, 2) := by decide +kernel
theorem dX5_turn_147 : decode cX5_turn 147 = .ok (.invokestatic 221, 3) := by decide +kernel
theorem dX5_turn_150 : decode cX5_turn 150 = .ok (.iload 6, 2) := by decide +kernel
theorem dX5_turn_152 : decode cX5_turn 152 = .ok (.iload 7, 2) := by decide +kernel
theorem dX5_turn_154 : decode cX5_turn 154 = .ok (.invokestatic 226, 3) := by decide +kernel
theorem dX5_turn_157 : decode cX5_turn 157 = .ok (.invokevirtual 103, 3) := by decide +kernel
theorem dX5_turn_160 : decode cX5_turn 160 = .ok (.iinc 1 1, 3) := by decide +kernel
theorem dX5_turn_163 : decode cX5_turn 163 = .ok (.iload_n 3, 1) := by decide +kernel
theorem dX5_turn_164 : decode cX5_turn 164 = .ok (.iload 6, 2) := by decide +kernel
theorem dX5_turn_166 : decode cX5_turn 166 = .ok (.iload 7, 2) := by decide +kernel
theorem dX5_turn_168 : decode cX5_turn 168 = .ok (.invokestatic 229, 3) := by decide +kernel
theorem dX5_turn_171 : decode cX5_turn 171 = .ok (.ifCond .eq 21, 3) := by decide +kernel
theorem dX5_turn_174 : decode cX5_turn 174 = .ok (.aload_n 0, 1) := by decide +kernel
theorem dX5_turn_175 : decode cX5_turn 175 = .ok (.getfield 50, 3) := by decide +kernel
theorem dX5_turn_178 : decode cX5_turn 178 = .ok (.iload 4, 2) := by decide +kernel
theorem dX5_turn_180 : decode cX5_turn 180 = .ok (.iload 7, 2) := by decide +kernel
theorem dX5_turn_182 : decode cX5_turn 182 = .ok (.iastore, 1) := by decide +kernel
theorem dX5_turn_183 : decode cX5_turn 183 = .ok (.aload_n 0, 1) := by decide +kernel
theorem dX5_turn_184 : decode cX5_turn 184 = .ok (.getfield 50, 3) := by decide +kernel
theorem dX5_turn_187 : decode cX5_turn 187 = .ok (.iload 5, 2) := by decide +kernel
theorem dX5_turn_189 : decode cX5_turn 189 = .ok (.iload 6, 2) := by decide +kernel
theorem dX5_turn_191 : decode cX5_turn 191 = .ok (.iastore, 1) := by decide +kernel
theorem dX5_turn_192 : decode cX5_turn 192 = .ok (.iinc 2 1, 3) := by decide +kernel
theorem dX5_turn_195 : decode cX5_turn 195 = .ok (.goto (-121), 3) := by decide +kernel
theorem dX5_turn_198 : decode cX5_turn 198 = .ok (.aload_n 0, 1) := by decide +kernel
theorem dX5_turn_199 : decode cX5_turn 199 = .ok (.getfield 10, 3) := by decide +kernel
theorem dX5_turn_202 : decode cX5_turn 202 = .ok (.iload_n 1, 1) := by decide +kernel
theorem dX5_turn_203 : decode cX5_turn 203 = .ok (.putfield 77, 3) := by decide +kernel
theorem dX5_turn_206 : decode cX5_turn 206 = .ok (.iload_n 1, 1) := by decide +kernel
theorem dX5_turn_207 : decode cX5_turn 207 = .ok (.ireturn, 1) := by decide +kernel
set_option maxRecDepth 20000 in
theorem ggX5_mirror_X2_remember : GoodIn wsX5_mirror wsX2_remember := goodIn_r _ [9, 10, 11, 12, 13, 14, 15, 16, 17, 18, 19, 20, 21, 22, 23, 24, 25, 26, 27, 28, 59, 60, 61, 56, 57, 58] (by decide +kernel) (by decide +kernel)
set_option maxRecDepth 20000 in
theorem gX5_mirror_X2_remember : GoodIn wsX5_mirror (wsV RX5 73 RX2 yX2_remember wsX2_remember) := goodIn_app (goodIn_of _ (by decide +kernel)) ggX5_mirror_X2_remember
set_option maxRecDepth 20000 in
theorem ggX5_mirror_X3_high : GoodIn wsX5_mirror wsX3_high := goodIn_r _ [32, 24, 56, 57, 58] (by decide +kernel) (by decide +kernel)
set_option maxRecDepth 20000 in
theorem gX5_mirror_X3_high : GoodIn wsX5_mirror (wsV RX5 100 RX3 yX3_high wsX3_high) := goodIn_app (goodIn_of _ (by decide +kernel)) ggX5_mirror_X3_high
set_option maxRecDepth 20000 in
theorem ggX5_mirror_X3_low : GoodIn wsX5_mirror wsX3_low := goodIn_r _ [36, 24, 56, 57, 58] (by decide +kernel) (by decide +kernel)
set_option maxRecDepth 20000 in
theorem gX5_mirror_X3_low : GoodIn wsX5_mirror (wsV RX5 97 RX3 yX3_low wsX3_low) := goodIn_app (goodIn_of _ (by decide +kernel)) ggX5_mirror_X3_low
set_option maxRecDepth 20000 in
theorem ggX5_mirror_X3_move : GoodIn wsX5_mirror wsX3_move := goodIn_r _ [40, 24, 41, 42, 43, 20, 44, 56, 57, 58] (by decide +kernel) (by decide +kernel)
set_option maxRecDepth 20000 in
theorem gX5_mirror_X3_move : GoodIn wsX5_mirror (wsV RX5 232 RX3 yX3_move wsX3_move) := goodIn_app (goodIn_of _ (by decide +kernel)) ggX5_mirror_X3_move
theorem dX5_mirror_0 : decode cX5_mirror 0 = .ok (.aload_n 0, 1) := by decide +kernel
theorem dX5_mirror_1 : decode cX5_mirror 1 = .ok (.getfield 23, 3) := by decide +kernel
theorem dX5_mirror_4 : decode cX5_mirror 4 = .ok (.aload_n 0, 1) := by decide +kernel
theorem dX5_mirror_5 : decode cX5_mirror 5 = .ok (.getfield 10, 3) := by decide +kernel
theorem dX5_mirror_8 : decode cX5_mirror 8 = .ok (.invokevirtual 73, 3) := by decide +kernel
theorem dX5_mirror_11 : decode cX5_mirror 11 = .ok (.aload_n 0, 1) := by decide +kernel
theorem dX5_mirror_12 : decode cX5_mirror 12 = .ok (.getfield 10, 3) := by decide +kernel
theorem dX5_mirror_15 : decode cX5_mirror 15 = .ok (.getfield 160, 3) := by decide +kernel
theorem dX5_mirror_18 : decode cX5_mirror 18 = .ok (.iconst 1, 1) := by decide +kernel
theorem dX5_mirror_19 : decode cX5_mirror 19 = .ok (.isub, 1) := by decide +kernel
theorem dX5_mirror_20 : decode cX5_mirror 20 = .ok (.istore_n 1, 1) := by decide +kernel
theorem dX5_mirror_21 : decode cX5_mirror 21 = .ok (.iconst 0, 1) := by decide +kernel
theorem dX5_mirror_22 : decode cX5_mirror 22 = .ok (.istore_n 2, 1) := by decide +kernel
theorem dX5_mirror_23 : decode cX5_mirror 23 = .ok (.iload_n 2, 1) := by decide +kernel
theorem dX5_mirror_24 : decode cX5_mirror 24 = .ok (.aload_n 0, 1) := by decide +kernel
theorem dX5_mirror_25 : decode cX5_mirror 25 = .ok (.getfield 10, 3) := by decide +kernel
theorem dX5_mirror_28 : decode cX5_mirror 28 = .ok (.getfield 77, 3) := by decide +kernel
theorem dX5_mirror_31 : decode cX5_mirror 31 = .ok (.if_icmp .ge 37, 3) := by decide +kernel
theorem dX5_mirror_34 : decode cX5_mirror 34 = .ok (.aload_n 0, 1) := by decide +kernel
theorem dX5_mirror_35 : decode cX5_mirror 35 = .ok (.getfield 10, 3) := by decide +kernel
theorem dX5_mirror_38 : decode cX5_mirror 38 = .ok (.iload_n 2, 1) := by decide +kernel
theorem dX5_mirror_39 : decode cX5_mirror 39 = .ok (.iload_n 1, 1) := by decide +kernel
theorem dX5_mirror_40 : decode cX5_mirror 40 = .ok (.aload_n 0, 1) := by decide +kernel
theorem dX5_mirror_41 : decode cX5_mirror 41 = .ok (.getfield 10, 3) := by decide +kernel
theorem dX5_mirror_44 : decode cX5_mirror 44 = .ok (.iload_n 2, 1) := by decide +kernel
theorem dX5_mirror_45 : decode cX5_mirror 45 = .ok (.invokevirtual 100, 3) := by decide +kernel
theorem dX5_mirror_48 : decode cX5_mirror 48 = .ok (.isub, 1) := by decide +kernel
theorem dX5_mirror_49 : decode cX5_mirror 49 = .ok (.iload_n 1, 1) := by decide +kernel
theorem dX5_mirror_50 : decode cX5_mirror 50 = .ok (.aload_n 0, 1) := by decide +kernel
theorem dX5_mirror_51 : decode cX5_mirror 51 = .ok (.getfield 10, 3) := by decide +kernel
theorem dX5_mirror_54 : decode cX5_mirror 54 = .ok (.iload_n 2, 1) := by decide +kernel
theorem dX5_mirror_55 : decode cX5_mirror 55 = .ok (.invokevirtual 97, 3) := by decide +kernel
theorem dX5_mirror_58 : decode cX5_mirror 58 = .ok (.isub, 1) := by decide +kernel
theorem dX5_mirror_59 : decode cX5_mirror 59 = .ok (.invokevirtual 232, 3) := by decide +kernel
theorem dX5_mirror_62 : decode cX5_mirror 62 = .ok (.iinc 2 1, 3) := by decide +kernel
theorem dX5_mirror_65 : decode cX5_mirror 65 = .ok (.goto (-42), 3) := by decide +kernel
theorem dX5_mirror_68 : decode cX5_mirror 68 = .ok (.aload_n 0, 1) := by decide +kernel
theorem dX5_mirror_69 : decode cX5_mirror 69 = .ok (.getfield 10, 3) := by decide +kernel
theorem dX5_mirror_72 : decode cX5_mirror 72 = .ok (.getfield 77, 3) := by decide +kernel
theorem dX5_mirror_75 : decode cX5_mirror 75 = .ok (.ireturn, 1) := by decide +kernel
set_option maxRecDepth 20000 in
theorem ggX5_missing_X5_finding : GoodIn wsX5_missing wsX5_finding := goodIn_r _ [9, 10, 90, 91, 92, 93, 94, 95, 96, 97, 98, 99, 100] (by decide +kernel) (by decide +kernel)
set_option maxRecDepth 20000 in
theorem gX5_missing_X5_finding : GoodIn wsX5_missing (wsV RX5 69 RX5 yX5_finding wsX5_finding) := goodIn_app (goodIn_of _ (by decide +kernel)) ggX5_missing_X5_finding
set_option maxRecDepth 20000 in
theorem ggX5_missing_X5_findCompletion : GoodIn wsX5_missing wsX5_findCompletion := goodIn_r _ [14, 15, 1, 2, 3, 16, 17, 18, 19, 20, 21, 22, 23, 24, 25, 26, 27, 28, 29, 30, 31, 32, 33, 34, 35, 36, 37, 38, 39, 40, 41, 42, 43, 44, 45, 46, 47, 48, 49, 50, 51, 52, 53, 54, 55, 56, 57, 58, 59, 60, 61, 62, 63, 64, 65, 66, 67, 68, 69, 70, 71, 72, 73, 74, 75, 76, 77, 78, 79, 80, 81, 82, 83, 84, 85, 86, 87, 88, 89, 90, 91, 92, 93, 94, 95, 96, 97, 98, 99, 100, 101, 102, 103, 108, 109, 104, 105, 106, 107] (by decide +kernel) (by decide +kernel)
set_option maxRecDepth 20000 in
theorem gX5_missing_X5_findCompletion : GoodIn wsX5_missing (wsV RX5 235 RX5 yX5_findCompletion wsX5_findCompletion) := goodIn_app (goodIn_of _ (by decide +kernel)) ggX5_missing_X5_findCompletion
end
section
theorem dX5_missing_0 : decode cX5_missing 0 = .ok (.aload_n 0, 1) := by decide +kernel
theorem dX5_missing_1 : decode cX5_missing 1 = .ok (.getfield 10, 3) := by decide +kernel
theorem dX5_missing_4 : decode cX5_missing 4 = .ok (.getfield 160, 3) := by decide +kernel
theorem dX5_missing_7 : decode cX5_missing 7 = .ok (.iconst 4, 1) := by decide +kernel
theorem dX5_missing_8 : decode cX5_missing 8 = .ok (.if_icmp .le 10, 3) := by decide +kernel
theorem dX5_missing_11 : decode cX5_missing 11 = .ok (.aload_n 0, 1) := by decide +kernel
theorem dX5_missing_12 : decode cX5_missing 12 = .ok (.bipush (-8), 2) := by decide +kernel
theorem dX5_missing_14 : decode cX5_missing 14 = .ok (.invokevirtual 69, 3) := by decide +kernel
theorem dX5_missing_17 : decode cX5_missing 17 = .ok (.ireturn, 1) := by decide +kernel
theorem dX5_missing_18 : decode cX5_missing 18 = .ok (.aload_n 0, 1) := by decide +kernel
theorem dX5_missing_19 : decode cX5_missing 19 = .ok (.invokevirtual 235, 3) := by decide +kernel
theorem dX5_missing_22 : decode cX5_missing 22 = .ok (.aload_n 0, 1) := by decide +kernel
theorem dX5_missing_23 : decode cX5_missing 23 = .ok (.getfield 46, 3) := by decide +kernel
theorem dX5_missing_26 : decode cX5_missing 26 = .ok (.getfield 238, 3) := by decide +kernel
theorem dX5_missing_29 : decode cX5_missing 29 = .ok (.ireturn, 1) := by decide +kernel
set_option maxRecDepth 20000 in
theorem ggX5_next_X5_finding : GoodIn wsX5_next wsX5_finding := goodIn_r _ [10, 11, 91, 92, 93, 94, 95, 96, 97, 98, 99, 100, 101] (by decide +kernel) (by decide +kernel)
set_option maxRecDepth 20000 in
theorem gX5_next_X5_finding : GoodIn wsX5_next (wsV RX5 69 RX5 yX5_finding wsX5_finding) := goodIn_app (goodIn_of _ (by decide +kernel)) ggX5_next_X5_finding
set_option maxRecDepth 20000 in
theorem ggX5_next_X5_findCompletion : GoodIn wsX5_next wsX5_findCompletion := goodIn_r _ [15, 16, 1, 2, 3, 17, 18, 19, 20, 21, 22, 23, 24, 25, 26, 27, 28, 29, 30, 31, 32, 33, 34, 35, 36, 37, 38, 39, 40, 41, 42, 43, 44, 45, 46, 47, 48, 49, 50, 51, 52, 53, 54, 55, 56, 57, 58, 59, 60, 61, 62, 63, 64, 65, 66, 67, 68, 69, 70, 71, 72, 73, 74, 75, 76, 77, 78, 79, 80, 81, 82, 83, 84, 85, 86, 87, 88, 89, 90, 91, 92, 93, 94, 95, 96, 97, 98, 99, 100, 101, 102, 103, 104, 109, 110, 105, 106, 107, 108] (by decide +kernel) (by decide +kernel)
set_option maxRecDepth 20000 in
theorem gX5_next_X5_findCompletion : GoodIn wsX5_next (wsV RX5 235 RX5 yX5_findCompletion wsX5_findCompletion) := goodIn_app (goodIn_of _ (by decide +kernel)) ggX5_next_X5_findCompletion
theorem dX5_next_0 : decode cX5_next 0 = .ok (.aload_n 0, 1) := by decide +kernel
theorem dX5_next_1 : decode cX5_next 1 = .ok (.getfield 10, 3) := by decide +kernel
theorem dX5_next_4 : decode cX5_next 4 = .ok (.getfield 160, 3) := by decide +kernel
theorem dX5_next_7 : decode cX5_next 7 = .ok (.iconst 4, 1) := by decide +kernel
theorem dX5_next_8 : decode cX5_next 8 = .ok (.if_icmp .le 10, 3) := by decide +kernel
theorem dX5_next_11 : decode cX5_next 11 = .ok (.aload_n 0, 1) := by decide +kernel
theorem dX5_next_12 : decode cX5_next 12 = .ok (.bipush (-8), 2) := by decide +kernel
theorem dX5_next_14 : decode cX5_next 14 = .ok (.invokevirtual 69, 3) := by decide +kernel
theorem dX5_next_17 : decode cX5_next 17 = .ok (.ireturn, 1) := by decide +kernel
theorem dX5_next_18 : decode cX5_next 18 = .ok (.aload_n 0, 1) := by decide +kernel
theorem dX5_next_19 : decode cX5_next 19 = .ok (.invokevirtual 235, 3) := by decide +kernel
theorem dX5_next_22 : decode cX5_next 22 = .ok (.iload_n 1, 1) := by decide +kernel
theorem dX5_next_23 : decode cX5_next 23 = .ok (.ifCond .lt 19, 3) := by decide +kernel
theorem dX5_next_26 : decode cX5_next 26 = .ok (.iload_n 1, 1) := by decide +kernel
theorem dX5_next_27 : decode cX5_next 27 = .ok (.aload_n 0, 1) := by decide +kernel
theorem dX5_next_28 : decode cX5_next 28 = .ok (.getfield 46, 3) := by decide +kernel
theorem dX5_next_31 : decode cX5_next 31 = .ok (.getfield 238, 3) := by decide +kernel
theorem dX5_next_34 : decode cX5_next 34 = .ok (.if_icmp .ge 8, 3) := by decide +kernel
theorem dX5_next_37 : decode cX5_next 37 = .ok (.iload_n 1, 1) := by decide +kernel
theorem dX5_next_38 : decode cX5_next 38 = .ok (.iconst 5, 1) := by decide +kernel
theorem dX5_next_39 : decode cX5_next 39 = .ok (.if_icmp .lt 10, 3) := by decide +kernel
theorem dX5_next_42 : decode cX5_next 42 = .ok (.aload_n 0, 1) := by decide +kernel
theorem dX5_next_43 : decode cX5_next 43 = .ok (.bipush (-6), 2) := by decide +kernel
theorem dX5_next_45 : decode cX5_next 45 = .ok (.invokevirtual 69, 3) := by decide +kernel
theorem dX5_next_48 : decode cX5_next 48 = .ok (.ireturn, 1) := by decide +kernel
theorem dX5_next_49 : decode cX5_next 49 = .ok (.aload_n 0, 1) := by decide +kernel
theorem dX5_next_50 : decode cX5_next 50 = .ok (.getfield 46, 3) := by decide +kernel
theorem dX5_next_53 : decode cX5_next 53 = .ok (.getfield 241, 3) := by decide +kernel
theorem dX5_next_56 : decode cX5_next 56 = .ok (.iload_n 1, 1) := by decide +kernel
theorem dX5_next_57 : decode cX5_next 57 = .ok (.iaload, 1) := by decide +kernel
theorem dX5_next_58 : decode cX5_next 58 = .ok (.ireturn, 1) := by decide +kernel
set_option maxRecDepth 20000 in
theorem ggX5_bears_X5_sorts : GoodIn wsX5_bears wsX5_sorts := goodIn_r _ [7, 8, 9, 10, 6, 11, 1, 12, 13, 14, 15, 16, 17, 18, 19, 20, 21, 22, 23, 24, 25, 26, 27, 28, 29, 30, 31, 32, 33, 34, 35, 36, 37, 38, 39, 40, 41, 42, 43, 44, 45, 46, 47, 48, 49, 50, 51, 52, 53, 54, 55, 56, 57, 58, 59, 60, 61, 62, 63, 64, 65, 66, 67, 68, 69, 70, 71, 72, 73, 74, 75, 76, 77, 78, 79, 80, 81, 82, 83, 84, 85, 86, 87, 88, 89, 90, 91, 92, 93, 94, 95, 96, 97] (by decide +kernel) (by decide +kernel)
set_option maxRecDepth 20000 in
theorem gX5_bears_X5_sorts : GoodIn wsX5_bears (wsV RX5 244 RX5 yX5_sorts wsX5_sorts) := goodIn_app (goodIn_of _ (by decide +kernel)) ggX5_bears_X5_sorts
set_option maxRecDepth 20000 in
theorem ggX5_bears_X5_leastFailing : GoodIn wsX5_bears wsX5_leastFailing := goodIn_r _ [11, 1, 12, 13, 14, 15, 16, 17, 18, 19, 6, 20, 21, 22, 23, 24, 25, 26, 27, 28, 29, 30, 31, 32, 33, 34, 35, 36, 37, 38, 39, 40, 41, 42, 43, 44, 45, 46, 47, 48, 49, 50, 51, 52, 53, 54, 55, 56, 57, 58, 59, 60, 61, 62, 63, 64, 65, 66, 67, 68, 69, 70, 71, 72, 73, 74, 75, 76, 77, 78, 79, 80, 81, 82, 83, 84, 85, 86, 87, 88, 89, 90, 91, 92, 93, 94, 95, 96, 97] (by decide +kernel) (by decide +kernel)
set_option maxRecDepth 20000 in
theorem gX5_bears_X5_leastFailing : GoodIn wsX5_bears (wsV RX5 186 RX5 yX5_leastFailing wsX5_leastFailing) := goodIn_app (goodIn_of _ (by decide +kernel)) ggX5_bears_X5_leastFailing
theorem dX5_bears_0 : decode cX5_bears 0 = .ok (.aload_n 0, 1) := by decide +kernel
theorem dX5_bears_1 : decode cX5_bears 1 = .ok (.getfield 10, 3) := by decide +kernel
theorem dX5_bears_4 : decode cX5_bears 4 = .ok (.getfield 77, 3) := by decide +kernel
theorem dX5_bears_7 : decode cX5_bears 7 = .ok (.ifCond .ne 8, 3) := by decide +kernel
theorem dX5_bears_10 : decode cX5_bears 10 = .ok (.aload_n 0, 1) := by decide +kernel
theorem dX5_bears_11 : decode cX5_bears 11 = .ok (.invokevirtual 244, 3) := by decide +kernel
theorem dX5_bears_14 : decode cX5_bears 14 = .ok (.ireturn, 1) := by decide +kernel
theorem dX5_bears_15 : decode cX5_bears 15 = .ok (.iconst 0, 1) := by decide +kernel
theorem dX5_bears_16 : decode cX5_bears 16 = .ok (.istore_n 1, 1) := by decide +kernel
theorem dX5_bears_17 : decode cX5_bears 17 = .ok (.iload_n 1, 1) := by decide +kernel
theorem dX5_bears_18 : decode cX5_bears 18 = .ok (.aload_n 0, 1) := by decide +kernel
theorem dX5_bears_19 : decode cX5_bears 19 = .ok (.getfield 10, 3) := by decide +kernel
theorem dX5_bears_22 : decode cX5_bears 22 = .ok (.getfield 77, 3) := by decide +kernel
theorem dX5_bears_25 : decode cX5_bears 25 = .ok (.if_icmp .ge 21, 3) := by decide +kernel
theorem dX5_bears_28 : decode cX5_bears 28 = .ok (.aload_n 0, 1) := by decide +kernel
theorem dX5_bears_29 : decode cX5_bears 29 = .ok (.iload_n 1, 1) := by decide +kernel
theorem dX5_bears_30 : decode cX5_bears 30 = .ok (.invokevirtual 186, 3) := by decide +kernel
theorem dX5_bears_33 : decode cX5_bears 33 = .ok (.bipush (-6), 2) := by decide +kernel
theorem dX5_bears_35 : decode cX5_bears 35 = .ok (.if_icmp .eq 5, 3) := by decide +kernel
theorem dX5_bears_38 : decode cX5_bears 38 = .ok (.iconst 0, 1) := by decide +kernel
theorem dX5_bears_39 : decode cX5_bears 39 = .ok (.ireturn, 1) := by decide +kernel
theorem dX5_bears_40 : decode cX5_bears 40 = .ok (.iinc 1 1, 3) := by decide +kernel
theorem dX5_bears_43 : decode cX5_bears 43 = .ok (.goto (-26), 3) := by decide +kernel
theorem dX5_bears_46 : decode cX5_bears 46 = .ok (.iconst 1, 1) := by decide +kernel
theorem dX5_bears_47 : decode cX5_bears 47 = .ok (.ireturn, 1) := by decide +kernel
set_option maxRecDepth 20000 in
theorem ggX5_weak_X3_has : GoodIn wsX5_weak wsX3_has := goodIn_r _ [6, 7, 102, 103, 104] (by decide +kernel) (by decide +kernel)
set_option maxRecDepth 20000 in
theorem gX5_weak_X3_has : GoodIn wsX5_weak (wsV RX5 91 RX3 yX3_has wsX3_has) := goodIn_app (goodIn_of _ (by decide +kernel)) ggX5_weak_X3_has
set_option maxRecDepth 20000 in
theorem ggX5_weak_X5_finding : GoodIn wsX5_weak wsX5_finding := goodIn_r _ [12, 13, 91, 92, 93, 94, 95, 96, 97, 98, 99, 100, 101] (by decide +kernel) (by decide +kernel)
set_option maxRecDepth 20000 in
theorem gX5_weak_X5_finding : GoodIn wsX5_weak (wsV RX5 69 RX5 yX5_finding wsX5_finding) := goodIn_app (goodIn_of _ (by decide +kernel)) ggX5_weak_X5_finding
set_option maxRecDepth 20000 in
theorem ggX5_weak_X5_leastFailing : GoodIn wsX5_weak wsX5_leastFailing := goodIn_r _ [17, 1, 18, 19, 20, 21, 22, 23, 24, 25, 11, 26, 27, 28, 29, 30, 31, 32, 33, 34, 35, 36, 37, 38, 39, 40, 41, 42, 43, 44, 45, 46, 5, 47, 48, 49, 50, 51, 52, 53, 54, 55, 56, 57, 58, 59, 60, 61, 62, 63, 64, 65, 66, 67, 68, 69, 70, 71, 72, 73, 74, 75, 76, 77, 78, 79, 80, 81, 82, 83, 84, 85, 86, 91, 92, 93, 94, 95, 96, 97, 98, 99, 100, 101, 102, 103, 104, 105, 106] (by decide +kernel) (by decide +kernel)
set_option maxRecDepth 20000 in
theorem gX5_weak_X5_leastFailing : GoodIn wsX5_weak (wsV RX5 186 RX5 yX5_leastFailing wsX5_leastFailing) := goodIn_app (goodIn_of _ (by decide +kernel)) ggX5_weak_X5_leastFailing
set_option maxRecDepth 20000 in
theorem ggX5_weak_X5_toldOrFinding : GoodIn wsX5_weak wsX5_toldOrFinding := goodIn_r _ [90, 8, 9, 10, 11, 12, 13, 91, 92, 93, 94, 95, 96, 97, 98, 99, 100, 101] (by decide +kernel) (by decide +kernel)
set_option maxRecDepth 20000 in
theorem gX5_weak_X5_toldOrFinding : GoodIn wsX5_weak (wsV RX5 189 RX5 yX5_toldOrFinding wsX5_toldOrFinding) := goodIn_app (goodIn_of _ (by decide +kernel)) ggX5_weak_X5_toldOrFinding
theorem dX5_weak_0 : decode cX5_weak 0 = .ok (.aload_n 0, 1) := by decide +kernel
theorem dX5_weak_1 : decode cX5_weak 1 = .ok (.getfield 10, 3) := by decide +kernel
theorem dX5_weak_4 : decode cX5_weak 4 = .ok (.iload_n 1, 1) := by decide +kernel
theorem dX5_weak_5 : decode cX5_weak 5 = .ok (.invokevirtual 91, 3) := by decide +kernel
theorem dX5_weak_8 : decode cX5_weak 8 = .ok (.ifCond .ne 9, 3) := by decide +kernel
theorem dX5_weak_11 : decode cX5_weak 11 = .ok (.aload_n 0, 1) := by decide +kernel
theorem dX5_weak_12 : decode cX5_weak 12 = .ok (.iconst (-1), 1) := by decide +kernel
theorem dX5_weak_13 : decode cX5_weak 13 = .ok (.invokevirtual 69, 3) := by decide +kernel
theorem dX5_weak_16 : decode cX5_weak 16 = .ok (.ireturn, 1) := by decide +kernel
theorem dX5_weak_17 : decode cX5_weak 17 = .ok (.aload_n 0, 1) := by decide +kernel
theorem dX5_weak_18 : decode cX5_weak 18 = .ok (.aload_n 0, 1) := by decide +kernel
theorem dX5_weak_19 : decode cX5_weak 19 = .ok (.iload_n 1, 1) := by decide +kernel
theorem dX5_weak_20 : decode cX5_weak 20 = .ok (.invokevirtual 186, 3) := by decide +kernel
theorem dX5_weak_23 : decode cX5_weak 23 = .ok (.invokevirtual 189, 3) := by decide +kernel
theorem dX5_weak_26 : decode cX5_weak 26 = .ok (.ireturn, 1) := by decide +kernel
set_option maxRecDepth 20000 in
theorem ggX5_keep_X5_isSlot : GoodIn wsX5_keep wsX5_isSlot := goodIn_r _ [7] (by decide +kernel) (by decide +kernel)
set_option maxRecDepth 20000 in
theorem gX5_keep_X5_isSlot : GoodIn wsX5_keep (va_wsS RX5 248 yX5_isSlot wsX5_isSlot) := goodIn_app (goodIn_of _ (by decide +kernel)) ggX5_keep_X5_isSlot
set_option maxRecDepth 20000 in
theorem ggX5_keep_X5_finding : GoodIn wsX5_keep wsX5_finding := goodIn_r _ [11, 12, 25, 26, 27, 28, 29, 30, 31, 32, 33, 34, 35] (by decide +kernel) (by decide +kernel)
set_option maxRecDepth 20000 in
theorem gX5_keep_X5_finding : GoodIn wsX5_keep (wsV RX5 69 RX5 yX5_finding wsX5_finding) := goodIn_app (goodIn_of _ (by decide +kernel)) ggX5_keep_X5_finding
set_option maxRecDepth 20000 in
theorem ggX5_keep_X3_become : GoodIn wsX5_keep wsX3_become := goodIn_r _ [17, 18, 19, 20, 21, 22, 23, 24, 36, 37, 38] (by decide +kernel) (by decide +kernel)
set_option maxRecDepth 20000 in
theorem gX5_keep_X3_become : GoodIn wsX5_keep (wsV RX5 251 RX3 yX3_become wsX3_become) := goodIn_app (goodIn_of _ (by decide +kernel)) ggX5_keep_X3_become
theorem dX5_keep_0 : decode cX5_keep 0 = .ok (.iload_n 1, 1) := by decide +kernel
theorem dX5_keep_1 : decode cX5_keep 1 = .ok (.invokestatic 248, 3) := by decide +kernel
theorem dX5_keep_4 : decode cX5_keep 4 = .ok (.ifCond .ne 9, 3) := by decide +kernel
theorem dX5_keep_7 : decode cX5_keep 7 = .ok (.aload_n 0, 1) := by decide +kernel
theorem dX5_keep_8 : decode cX5_keep 8 = .ok (.iconst (-1), 1) := by decide +kernel
theorem dX5_keep_9 : decode cX5_keep 9 = .ok (.invokevirtual 69, 3) := by decide +kernel
theorem dX5_keep_12 : decode cX5_keep 12 = .ok (.ireturn, 1) := by decide +kernel
theorem dX5_keep_13 : decode cX5_keep 13 = .ok (.aload_n 0, 1) := by decide +kernel
theorem dX5_keep_14 : decode cX5_keep 14 = .ok (.getfield 16, 3) := by decide +kernel
theorem dX5_keep_17 : decode cX5_keep 17 = .ok (.iload_n 1, 1) := by decide +kernel
theorem dX5_keep_18 : decode cX5_keep 18 = .ok (.aaload, 1) := by decide +kernel
theorem dX5_keep_19 : decode cX5_keep 19 = .ok (.aload_n 0, 1) := by decide +kernel
theorem dX5_keep_20 : decode cX5_keep 20 = .ok (.getfield 10, 3) := by decide +kernel
theorem dX5_keep_23 : decode cX5_keep 23 = .ok (.invokevirtual 251, 3) := by decide +kernel
theorem dX5_keep_26 : decode cX5_keep 26 = .ok (.aload_n 0, 1) := by decide +kernel
theorem dX5_keep_27 : decode cX5_keep 27 = .ok (.getfield 10, 3) := by decide +kernel
theorem dX5_keep_30 : decode cX5_keep 30 = .ok (.getfield 77, 3) := by decide +kernel
theorem dX5_keep_33 : decode cX5_keep 33 = .ok (.ireturn, 1) := by decide +kernel
set_option maxRecDepth 20000 in
theorem ggX5_bring_X5_findingOfSlot : GoodIn wsX5_bring wsX5_findingOfSlot := goodIn_r _ [9, 3, 10, 11, 8, 12, 13, 14, 15, 16, 17, 18, 47, 48, 49, 50, 51, 52, 53, 54, 55, 56, 57, 58, 59, 60] (by decide +kernel) (by decide +kernel)
set_option maxRecDepth 20000 in
theorem gX5_bring_X5_findingOfSlot : GoodIn wsX5_bring (wsV RX5 254 RX5 yX5_findingOfSlot wsX5_findingOfSlot) := goodIn_app (goodIn_of _ (by decide +kernel)) ggX5_bring_X5_findingOfSlot
set_option maxRecDepth 20000 in
theorem ggX5_bring_X5_finding : GoodIn wsX5_bring wsX5_finding := goodIn_r _ [22, 23, 47, 48, 49, 50, 51, 52, 53, 54, 55, 56, 57] (by decide +kernel) (by decide +kernel)
set_option maxRecDepth 20000 in
theorem gX5_bring_X5_finding : GoodIn wsX5_bring (wsV RX5 69 RX5 yX5_finding wsX5_finding) := goodIn_app (goodIn_of _ (by decide +kernel)) ggX5_bring_X5_finding
set_option maxRecDepth 20000 in
theorem ggX5_bring_X2_remember : GoodIn wsX5_bring wsX2_remember := goodIn_r _ [28, 29, 30, 31, 32, 33, 34, 35, 36, 37, 38, 16, 39, 18, 40, 41, 42, 43, 44, 45, 61, 62, 63, 58, 59, 60] (by decide +kernel) (by decide +kernel)
set_option maxRecDepth 20000 in
theorem gX5_bring_X2_remember : GoodIn wsX5_bring (wsV RX5 73 RX2 yX2_remember wsX2_remember) := goodIn_app (goodIn_of _ (by decide +kernel)) ggX5_bring_X2_remember
set_option maxRecDepth 20000 in
theorem ggX5_bring_X3_become : GoodIn wsX5_bring wsX3_become := goodIn_r _ [39, 18, 40, 41, 42, 43, 44, 45, 58, 59, 60] (by decide +kernel) (by decide +kernel)
set_option maxRecDepth 20000 in
theorem gX5_bring_X3_become : GoodIn wsX5_bring (wsV RX5 251 RX3 yX3_become wsX3_become) := goodIn_app (goodIn_of _ (by decide +kernel)) ggX5_bring_X3_become
theorem dX5_bring_0 : decode cX5_bring 0 = .ok (.aload_n 0, 1) := by decide +kernel
theorem dX5_bring_1 : decode cX5_bring 1 = .ok (.iload_n 1, 1) := by decide +kernel
theorem dX5_bring_2 : decode cX5_bring 2 = .ok (.invokevirtual 254, 3) := by decide +kernel
theorem dX5_bring_5 : decode cX5_bring 5 = .ok (.istore_n 2, 1) := by decide +kernel
theorem dX5_bring_6 : decode cX5_bring 6 = .ok (.iload_n 2, 1) := by decide +kernel
theorem dX5_bring_7 : decode cX5_bring 7 = .ok (.ifCond .ge 9, 3) := by decide +kernel
theorem dX5_bring_10 : decode cX5_bring 10 = .ok (.aload_n 0, 1) := by decide +kernel
theorem dX5_bring_11 : decode cX5_bring 11 = .ok (.iload_n 2, 1) := by decide +kernel
theorem dX5_bring_12 : decode cX5_bring 12 = .ok (.invokevirtual 69, 3) := by decide +kernel
theorem dX5_bring_15 : decode cX5_bring 15 = .ok (.ireturn, 1) := by decide +kernel
theorem dX5_bring_16 : decode cX5_bring 16 = .ok (.aload_n 0, 1) := by decide +kernel
theorem dX5_bring_17 : decode cX5_bring 17 = .ok (.getfield 23, 3) := by decide +kernel
theorem dX5_bring_20 : decode cX5_bring 20 = .ok (.aload_n 0, 1) := by decide +kernel
theorem dX5_bring_21 : decode cX5_bring 21 = .ok (.getfield 10, 3) := by decide +kernel
theorem dX5_bring_24 : decode cX5_bring 24 = .ok (.invokevirtual 73, 3) := by decide +kernel
theorem dX5_bring_27 : decode cX5_bring 27 = .ok (.aload_n 0, 1) := by decide +kernel
theorem dX5_bring_28 : decode cX5_bring 28 = .ok (.getfield 10, 3) := by decide +kernel
theorem dX5_bring_31 : decode cX5_bring 31 = .ok (.aload_n 0, 1) := by decide +kernel
theorem dX5_bring_32 : decode cX5_bring 32 = .ok (.getfield 16, 3) := by decide +kernel
theorem dX5_bring_35 : decode cX5_bring 35 = .ok (.iload_n 1, 1) := by decide +kernel
theorem dX5_bring_36 : decode cX5_bring 36 = .ok (.aaload, 1) := by decide +kernel
theorem dX5_bring_37 : decode cX5_bring 37 = .ok (.invokevirtual 251, 3) := by decide +kernel
theorem dX5_bring_40 : decode cX5_bring 40 = .ok (.aload_n 0, 1) := by decide +kernel
theorem dX5_bring_41 : decode cX5_bring 41 = .ok (.getfield 10, 3) := by decide +kernel
theorem dX5_bring_44 : decode cX5_bring 44 = .ok (.getfield 77, 3) := by decide +kernel
theorem dX5_bring_47 : decode cX5_bring 47 = .ok (.ireturn, 1) := by decide +kernel
set_option maxRecDepth 20000 in
theorem ggX5_follow_X5_findingOfFit : GoodIn wsX5_follow wsX5_findingOfFit := goodIn_r _ [14, 1, 15, 2, 16, 17, 18, 13, 19, 20, 21, 22, 23, 24, 25, 26, 27, 28, 53, 54, 55, 56, 57, 58, 59, 60, 61, 62, 63, 64, 65, 66] (by decide +kernel) (by decide +kernel)
set_option maxRecDepth 20000 in
theorem gX5_follow_X5_findingOfFit : GoodIn wsX5_follow (wsV RX5 257 RX5 yX5_findingOfFit wsX5_findingOfFit) := goodIn_app (goodIn_of _ (by decide +kernel)) ggX5_follow_X5_findingOfFit
set_option maxRecDepth 20000 in
theorem ggX5_follow_X5_finding : GoodIn wsX5_follow wsX5_finding := goodIn_r _ [32, 33, 53, 54, 55, 56, 57, 58, 59, 60, 61, 62, 63] (by decide +kernel) (by decide +kernel)
set_option maxRecDepth 20000 in
theorem gX5_follow_X5_finding : GoodIn wsX5_follow (wsV RX5 69 RX5 yX5_finding wsX5_finding) := goodIn_app (goodIn_of _ (by decide +kernel)) ggX5_follow_X5_finding
set_option maxRecDepth 20000 in
theorem ggX5_follow_X2_remember : GoodIn wsX5_follow wsX2_remember := goodIn_r _ [38, 39, 40, 41, 42, 43, 44, 45, 46, 47, 48, 26, 49, 28, 50, 51, 52, 7, 8, 9, 67, 68, 69, 64, 65, 66] (by decide +kernel) (by decide +kernel)
set_option maxRecDepth 20000 in
theorem gX5_follow_X2_remember : GoodIn wsX5_follow (wsV RX5 73 RX2 yX2_remember wsX2_remember) := goodIn_app (goodIn_of _ (by decide +kernel)) ggX5_follow_X2_remember
theorem dX5_follow_0 : decode cX5_follow 0 = .ok (.aload_n 0, 1) := by decide +kernel
theorem dX5_follow_1 : decode cX5_follow 1 = .ok (.iload_n 1, 1) := by decide +kernel
theorem dX5_follow_2 : decode cX5_follow 2 = .ok (.invokevirtual 257, 3) := by decide +kernel
theorem dX5_follow_5 : decode cX5_follow 5 = .ok (.istore_n 2, 1) := by decide +kernel
theorem dX5_follow_6 : decode cX5_follow 6 = .ok (.iload_n 2, 1) := by decide +kernel
theorem dX5_follow_7 : decode cX5_follow 7 = .ok (.ifCond .ge 9, 3) := by decide +kernel
theorem dX5_follow_10 : decode cX5_follow 10 = .ok (.aload_n 0, 1) := by decide +kernel
theorem dX5_follow_11 : decode cX5_follow 11 = .ok (.iload_n 2, 1) := by decide +kernel
theorem dX5_follow_12 : decode cX5_follow 12 = .ok (.invokevirtual 69, 3) := by decide +kernel
theorem dX5_follow_15 : decode cX5_follow 15 = .ok (.ireturn, 1) := by decide +kernel
theorem dX5_follow_16 : decode cX5_follow 16 = .ok (.aload_n 0, 1) := by decide +kernel
theorem dX5_follow_17 : decode cX5_follow 17 = .ok (.getfield 16, 3) := by decide +kernel
theorem dX5_follow_20 : decode cX5_follow 20 = .ok (.iload_n 1, 1) := by decide +kernel
theorem dX5_follow_21 : decode cX5_follow 21 = .ok (.aaload, 1) := by decide +kernel
theorem dX5_follow_22 : decode cX5_follow 22 = .ok (.astore_n 3, 1) := by decide +kernel
theorem dX5_follow_23 : decode cX5_follow 23 = .ok (.aload_n 0, 1) := by decide +kernel
theorem dX5_follow_24 : decode cX5_follow 24 = .ok (.getfield 10, 3) := by decide +kernel
theorem dX5_follow_27 : decode cX5_follow 27 = .ok (.getfield 77, 3) := by decide +kernel
theorem dX5_follow_30 : decode cX5_follow 30 = .ok (.aload_n 3, 1) := by decide +kernel
theorem dX5_follow_31 : decode cX5_follow 31 = .ok (.getfield 77, 3) := by decide +kernel
theorem dX5_follow_34 : decode cX5_follow 34 = .ok (.iadd, 1) := by decide +kernel
theorem dX5_follow_35 : decode cX5_follow 35 = .ok (.bipush 40, 2) := by decide +kernel
theorem dX5_follow_37 : decode cX5_follow 37 = .ok (.if_icmp .le 10, 3) := by decide +kernel
theorem dX5_follow_40 : decode cX5_follow 40 = .ok (.aload_n 0, 1) := by decide +kernel
theorem dX5_follow_41 : decode cX5_follow 41 = .ok (.bipush (-5), 2) := by decide +kernel
theorem dX5_follow_43 : decode cX5_follow 43 = .ok (.invokevirtual 69, 3) := by decide +kernel
theorem dX5_follow_46 : decode cX5_follow 46 = .ok (.ireturn, 1) := by decide +kernel
theorem dX5_follow_47 : decode cX5_follow 47 = .ok (.aload_n 0, 1) := by decide +kernel
theorem dX5_follow_48 : decode cX5_follow 48 = .ok (.getfield 23, 3) := by decide +kernel
theorem dX5_follow_51 : decode cX5_follow 51 = .ok (.aload_n 0, 1) := by decide +kernel
theorem dX5_follow_52 : decode cX5_follow 52 = .ok (.getfield 10, 3) := by decide +kernel
theorem dX5_follow_55 : decode cX5_follow 55 = .ok (.invokevirtual 73, 3) := by decide +kernel
theorem dX5_follow_58 : decode cX5_follow 58 = .ok (.aload_n 3, 1) := by decide +kernel
theorem dX5_follow_59 : decode cX5_follow 59 = .ok (.getfield 218, 3) := by decide +kernel
theorem dX5_follow_62 : decode cX5_follow 62 = .ok (.iconst 0, 1) := by decide +kernel
theorem dX5_follow_63 : decode cX5_follow 63 = .ok (.aload_n 0, 1) := by decide +kernel
theorem dX5_follow_64 : decode cX5_follow 64 = .ok (.getfield 10, 3) := by decide +kernel
theorem dX5_follow_67 : decode cX5_follow 67 = .ok (.getfield 218, 3) := by decide +kernel
theorem dX5_follow_70 : decode cX5_follow 70 = .ok (.aload_n 0, 1) := by decide +kernel
theorem dX5_follow_71 : decode cX5_follow 71 = .ok (.getfield 10, 3) := by decide +kernel
theorem dX5_follow_74 : decode cX5_follow 74 = .ok (.getfield 77, 3) := by decide +kernel
theorem dX5_follow_77 : decode cX5_follow 77 = .ok (.aload_n 3, 1) := by decide +kernel
theorem dX5_follow_78 : decode cX5_follow 78 = .ok (.getfield 77, 3) := by decide +kernel
theorem dX5_follow_81 : decode cX5_follow 81 = .ok (.invokestatic 150, 3) := by decide +kernel
theorem dX5_follow_84 : decode cX5_follow 84 = .ok (.aload_n 0, 1) := by decide +kernel
theorem dX5_follow_85 : decode cX5_follow 85 = .ok (.getfield 10, 3) := by decide +kernel
theorem dX5_follow_88 : decode cX5_follow 88 = .ok (.dup, 1) := by decide +kernel
theorem dX5_follow_89 : decode cX5_follow 89 = .ok (.getfield 77, 3) := by decide +kernel
theorem dX5_follow_92 : decode cX5_follow 92 = .ok (.aload_n 3, 1) := by decide +kernel
theorem dX5_follow_93 : decode cX5_follow 93 = .ok (.getfield 77, 3) := by decide +kernel
theorem dX5_follow_96 : decode cX5_follow 96 = .ok (.iadd, 1) := by decide +kernel
theorem dX5_follow_97 : decode cX5_follow 97 = .ok (.putfield 77, 3) := by decide +kernel
theorem dX5_follow_100 : decode cX5_follow 100 = .ok (.aload_n 0, 1) := by decide +kernel
theorem dX5_follow_101 : decode cX5_follow 101 = .ok (.getfield 10, 3) := by decide +kernel
theorem dX5_follow_104 : decode cX5_follow 104 = .ok (.getfield 77, 3) := by decide +kernel
theorem dX5_follow_107 : decode cX5_follow 107 = .ok (.ireturn, 1) := by decide +kernel
set_option maxRecDepth 20000 in
theorem ggX5_unlike_X5_findingOfFit : GoodIn wsX5_unlike wsX5_findingOfFit := goodIn_r _ [10, 5, 2, 1, 11, 12, 13, 9, 14, 15, 16, 17, 18, 19, 20, 21, 22, 23, 92, 93, 94, 95, 96, 97, 98, 99, 100, 101, 102, 103, 104, 105] (by decide +kernel) (by decide +kernel)
set_option maxRecDepth 20000 in
theorem gX5_unlike_X5_findingOfFit : GoodIn wsX5_unlike (wsV RX5 257 RX5 yX5_findingOfFit wsX5_findingOfFit) := goodIn_app (goodIn_of _ (by decide +kernel)) ggX5_unlike_X5_findingOfFit
set_option maxRecDepth 20000 in
theorem ggX5_unlike_X5_finding : GoodIn wsX5_unlike wsX5_finding := goodIn_r _ [27, 28, 92, 93, 94, 95, 96, 97, 98, 99, 100, 101, 102] (by decide +kernel) (by decide +kernel)
set_option maxRecDepth 20000 in
theorem gX5_unlike_X5_finding : GoodIn wsX5_unlike (wsV RX5 69 RX5 yX5_finding wsX5_finding) := goodIn_app (goodIn_of _ (by decide +kernel)) ggX5_unlike_X5_finding
set_option maxRecDepth 20000 in
theorem ggX5_unlike_X4_blocks : GoodIn wsX5_unlike wsX4_blocks := goodIn_r _ [32] (by decide +kernel) (by decide +kernel)
set_option maxRecDepth 20000 in
theorem gX5_unlike_X4_blocks : GoodIn wsX5_unlike (va_wsS RX5 192 yX4_blocks wsX4_blocks) := goodIn_app (goodIn_of _ (by decide +kernel)) ggX5_unlike_X4_blocks
set_option maxRecDepth 20000 in
theorem ggX5_unlike_X4_start : GoodIn wsX5_unlike wsX4_start := goodIn_r _ [36, 37, 38, 39, 40, 41, 31, 42, 43, 106, 107] (by decide +kernel) (by decide +kernel)
set_option maxRecDepth 20000 in
theorem gX5_unlike_X4_start : GoodIn wsX5_unlike (wsV RX5 176 RX4 yX4_start wsX4_start) := goodIn_app (goodIn_of _ (by decide +kernel)) ggX5_unlike_X4_start
set_option maxRecDepth 20000 in
theorem ggX5_unlike_X4_pass : GoodIn wsX5_unlike wsX4_pass := goodIn_r _ [47, 48, 49, 50, 51, 21, 52, 53, 54, 55, 56, 57, 58, 59, 60, 61, 62, 63, 64, 65, 66, 67, 68, 69, 70, 71, 72, 31, 73, 39, 74, 75, 76, 77, 37, 38, 103, 104, 105, 106, 107] (by decide +kernel) (by decide +kernel)
set_option maxRecDepth 20000 in
theorem gX5_unlike_X4_pass : GoodIn wsX5_unlike (wsV RX5 179 RX4 yX4_pass wsX4_pass) := goodIn_app (goodIn_of _ (by decide +kernel)) ggX5_unlike_X4_pass
set_option maxRecDepth 20000 in
theorem ggX5_unlike_X4_differing : GoodIn wsX5_unlike wsX4_differing := goodIn_r _ [81, 39, 106, 107] (by decide +kernel) (by decide +kernel)
set_option maxRecDepth 20000 in
theorem gX5_unlike_X4_differing : GoodIn wsX5_unlike (wsV RX5 260 RX4 yX4_differing wsX4_differing) := goodIn_app (goodIn_of _ (by decide +kernel)) ggX5_unlike_X4_differing
set_option maxRecDepth 20000 in
theorem ggX5_unlike_X4_leastOf : GoodIn wsX5_unlike wsX4_leastOf := goodIn_r _ [84, 85, 86, 87, 88, 89, 90, 91] (by decide +kernel) (by decide +kernel)
set_option maxRecDepth 20000 in
theorem gX5_unlike_X4_leastOf : GoodIn wsX5_unlike (va_wsS RX5 264 yX4_leastOf wsX4_leastOf) := goodIn_app (goodIn_of _ (by decide +kernel)) ggX5_unlike_X4_leastOf
theorem dX5_unlike_0 : decode cX5_unlike 0 = .ok (.aload_n 0, 1) := by decide +kernel
theorem dX5_unlike_1 : decode cX5_unlike 1 = .ok (.iload_n 1, 1) := by decide +kernel
theorem dX5_unlike_2 : decode cX5_unlike 2 = .ok (.invokevirtual 257, 3) := by decide +kernel
theorem dX5_unlike_5 : decode cX5_unlike 5 = .ok (.istore_n 2, 1) := by decide +kernel
theorem dX5_unlike_6 : decode cX5_unlike 6 = .ok (.iload_n 2, 1) := by decide +kernel
theorem dX5_unlike_7 : decode cX5_unlike 7 = .ok (.ifCond .ge 9, 3) := by decide +kernel
theorem dX5_unlike_10 : decode cX5_unlike 10 = .ok (.aload_n 0, 1) := by decide +kernel
theorem dX5_unlike_11 : decode cX5_unlike 11 = .ok (.iload_n 2, 1) := by decide +kernel
theorem dX5_unlike_12 : decode cX5_unlike 12 = .ok (.invokevirtual 69, 3) := by decide +kernel
theorem dX5_unlike_15 : decode cX5_unlike 15 = .ok (.ireturn, 1) := by decide +kernel
theorem dX5_unlike_16 : decode cX5_unlike 16 = .ok (.iconst 0, 1) := by decide +kernel
theorem dX5_unlike_17 : decode cX5_unlike 17 = .ok (.istore_n 3, 1) := by decide +kernel
theorem dX5_unlike_18 : decode cX5_unlike 18 = .ok (.iload_n 3, 1) := by decide +kernel
theorem dX5_unlike_19 : decode cX5_unlike 19 = .ok (.aload_n 0, 1) := by decide +kernel
theorem dX5_unlike_20 : decode cX5_unlike 20 = .ok (.getfield 10, 3) := by decide +kernel
theorem dX5_unlike_23 : decode cX5_unlike 23 = .ok (.getfield 160, 3) := by decide +kernel
theorem dX5_unlike_26 : decode cX5_unlike 26 = .ok (.invokestatic 192, 3) := by decide +kernel
theorem dX5_unlike_29 : decode cX5_unlike 29 = .ok (.if_icmp .ge 99, 3) := by decide +kernel
theorem dX5_unlike_32 : decode cX5_unlike 32 = .ok (.aload_n 0, 1) := by decide +kernel
theorem dX5_unlike_33 : decode cX5_unlike 33 = .ok (.getfield 36, 3) := by decide +kernel
theorem dX5_unlike_36 : decode cX5_unlike 36 = .ok (.aload_n 0, 1) := by decide +kernel
theorem dX5_unlike_37 : decode cX5_unlike 37 = .ok (.getfield 10, 3) := by decide +kernel
theorem dX5_unlike_40 : decode cX5_unlike 40 = .ok (.getfield 160, 3) := by decide +kernel
theorem dX5_unlike_43 : decode cX5_unlike 43 = .ok (.iload_n 3, 1) := by decide +kernel
theorem dX5_unlike_44 : decode cX5_unlike 44 = .ok (.invokevirtual 176, 3) := by decide +kernel
theorem dX5_unlike_47 : decode cX5_unlike 47 = .ok (.aload_n 0, 1) := by decide +kernel
theorem dX5_unlike_48 : decode cX5_unlike 48 = .ok (.getfield 36, 3) := by decide +kernel
theorem dX5_unlike_51 : decode cX5_unlike 51 = .ok (.aload_n 0, 1) := by decide +kernel
theorem dX5_unlike_52 : decode cX5_unlike 52 = .ok (.getfield 10, 3) := by decide +kernel
theorem dX5_unlike_55 : decode cX5_unlike 55 = .ok (.iconst (-1), 1) := by decide +kernel
theorem dX5_unlike_56 : decode cX5_unlike 56 = .ok (.invokevirtual 179, 3) := by decide +kernel
theorem dX5_unlike_59 : decode cX5_unlike 59 = .ok (.aload_n 0, 1) := by decide +kernel
theorem dX5_unlike_60 : decode cX5_unlike 60 = .ok (.getfield 40, 3) := by decide +kernel
theorem dX5_unlike_63 : decode cX5_unlike 63 = .ok (.aload_n 0, 1) := by decide +kernel
theorem dX5_unlike_64 : decode cX5_unlike 64 = .ok (.getfield 10, 3) := by decide +kernel
theorem dX5_unlike_67 : decode cX5_unlike 67 = .ok (.getfield 160, 3) := by decide +kernel
theorem dX5_unlike_70 : decode cX5_unlike 70 = .ok (.iload_n 3, 1) := by decide +kernel
theorem dX5_unlike_71 : decode cX5_unlike 71 = .ok (.invokevirtual 176, 3) := by decide +kernel
theorem dX5_unlike_74 : decode cX5_unlike 74 = .ok (.aload_n 0, 1) := by decide +kernel
theorem dX5_unlike_75 : decode cX5_unlike 75 = .ok (.getfield 40, 3) := by decide +kernel
theorem dX5_unlike_78 : decode cX5_unlike 78 = .ok (.aload_n 0, 1) := by decide +kernel
theorem dX5_unlike_79 : decode cX5_unlike 79 = .ok (.getfield 16, 3) := by decide +kernel
theorem dX5_unlike_82 : decode cX5_unlike 82 = .ok (.iload_n 1, 1) := by decide +kernel
theorem dX5_unlike_83 : decode cX5_unlike 83 = .ok (.aaload, 1) := by decide +kernel
theorem dX5_unlike_84 : decode cX5_unlike 84 = .ok (.iconst (-1), 1) := by decide +kernel
theorem dX5_unlike_85 : decode cX5_unlike 85 = .ok (.invokevirtual 179, 3) := by decide +kernel
theorem dX5_unlike_88 : decode cX5_unlike 88 = .ok (.aload_n 0, 1) := by decide +kernel
theorem dX5_unlike_89 : decode cX5_unlike 89 = .ok (.getfield 36, 3) := by decide +kernel
theorem dX5_unlike_92 : decode cX5_unlike 92 = .ok (.aload_n 0, 1) := by decide +kernel
theorem dX5_unlike_93 : decode cX5_unlike 93 = .ok (.getfield 40, 3) := by decide +kernel
theorem dX5_unlike_96 : decode cX5_unlike 96 = .ok (.aload_n 0, 1) := by decide +kernel
theorem dX5_unlike_97 : decode cX5_unlike 97 = .ok (.getfield 10, 3) := by decide +kernel
theorem dX5_unlike_100 : decode cX5_unlike 100 = .ok (.getfield 160, 3) := by decide +kernel
theorem dX5_unlike_103 : decode cX5_unlike 103 = .ok (.invokevirtual 260, 3) := by decide +kernel
theorem dX5_unlike_106 : decode cX5_unlike 106 = .ok (.lstore 4, 2) := by decide +kernel
theorem dX5_unlike_108 : decode cX5_unlike 108 = .ok (.lload 4, 2) := by decide +kernel
theorem dX5_unlike_110 : decode cX5_unlike 110 = .ok (.lconst 0, 1) := by decide +kernel
theorem dX5_unlike_111 : decode cX5_unlike 111 = .ok (.lcmp, 1) := by decide +kernel
theorem dX5_unlike_112 : decode cX5_unlike 112 = .ok (.ifCond .eq 10, 3) := by decide +kernel
theorem dX5_unlike_115 : decode cX5_unlike 115 = .ok (.lload 4, 2) := by decide +kernel
theorem dX5_unlike_117 : decode cX5_unlike 117 = .ok (.iload_n 3, 1) := by decide +kernel
theorem dX5_unlike_118 : decode cX5_unlike 118 = .ok (.invokestatic 264, 3) := by decide +kernel
theorem dX5_unlike_121 : decode cX5_unlike 121 = .ok (.ireturn, 1) := by decide +kernel
theorem dX5_unlike_122 : decode cX5_unlike 122 = .ok (.iinc 3 1, 3) := by decide +kernel
theorem dX5_unlike_125 : decode cX5_unlike 125 = .ok (.goto (-107), 3) := by decide +kernel
theorem dX5_unlike_128 : decode cX5_unlike 128 = .ok (.aload_n 0, 1) := by decide +kernel
theorem dX5_unlike_129 : decode cX5_unlike 129 = .ok (.bipush (-8), 2) := by decide +kernel
theorem dX5_unlike_131 : decode cX5_unlike 131 = .ok (.invokevirtual 69, 3) := by decide +kernel
theorem dX5_unlike_134 : decode cX5_unlike 134 = .ok (.ireturn, 1) := by decide +kernel
set_option maxRecDepth 20000 in
theorem ggX5_tell_X5_finding : GoodIn wsX5_tell wsX5_finding := goodIn_r _ [7, 8, 9, 10, 11, 12, 13, 14, 15, 16, 17, 18, 19] (by decide +kernel) (by decide +kernel)
set_option maxRecDepth 20000 in
theorem gX5_tell_X5_finding : GoodIn wsX5_tell (wsV RX5 69 RX5 yX5_finding wsX5_finding) := goodIn_app (goodIn_of _ (by decide +kernel)) ggX5_tell_X5_finding
theorem dX5_tell_0 : decode cX5_tell 0 = .ok (.aload_n 0, 1) := by decide +kernel
theorem dX5_tell_1 : decode cX5_tell 1 = .ok (.getfield 57, 3) := by decide +kernel
theorem dX5_tell_4 : decode cX5_tell 4 = .ok (.bipush 80, 2) := by decide +kernel
theorem dX5_tell_6 : decode cX5_tell 6 = .ok (.if_icmp .lt 10, 3) := by decide +kernel
theorem dX5_tell_9 : decode cX5_tell 9 = .ok (.aload_n 0, 1) := by decide +kernel
theorem dX5_tell_10 : decode cX5_tell 10 = .ok (.bipush (-5), 2) := by decide +kernel
theorem dX5_tell_12 : decode cX5_tell 12 = .ok (.invokevirtual 69, 3) := by decide +kernel
theorem dX5_tell_15 : decode cX5_tell 15 = .ok (.ireturn, 1) := by decide +kernel
theorem dX5_tell_16 : decode cX5_tell 16 = .ok (.aload_n 0, 1) := by decide +kernel
theorem dX5_tell_17 : decode cX5_tell 17 = .ok (.getfield 54, 3) := by decide +kernel
theorem dX5_tell_20 : decode cX5_tell 20 = .ok (.aload_n 0, 1) := by decide +kernel
theorem dX5_tell_21 : decode cX5_tell 21 = .ok (.getfield 57, 3) := by decide +kernel
theorem dX5_tell_24 : decode cX5_tell 24 = .ok (.iload_n 1, 1) := by decide +kernel
theorem dX5_tell_25 : decode cX5_tell 25 = .ok (.iastore, 1) := by decide +kernel
theorem dX5_tell_26 : decode cX5_tell 26 = .ok (.aload_n 0, 1) := by decide +kernel
theorem dX5_tell_27 : decode cX5_tell 27 = .ok (.dup, 1) := by decide +kernel
theorem dX5_tell_28 : decode cX5_tell 28 = .ok (.getfield 57, 3) := by decide +kernel
theorem dX5_tell_31 : decode cX5_tell 31 = .ok (.iconst 1, 1) := by decide +kernel
theorem dX5_tell_32 : decode cX5_tell 32 = .ok (.iadd, 1) := by decide +kernel
theorem dX5_tell_33 : decode cX5_tell 33 = .ok (.putfield 57, 3) := by decide +kernel
theorem dX5_tell_36 : decode cX5_tell 36 = .ok (.aload_n 0, 1) := by decide +kernel
theorem dX5_tell_37 : decode cX5_tell 37 = .ok (.getfield 57, 3) := by decide +kernel
theorem dX5_tell_40 : decode cX5_tell 40 = .ok (.ireturn, 1) := by decide +kernel
set_option maxRecDepth 20000 in
theorem ggX5_would_X5_finding : GoodIn wsX5_would wsX5_finding := goodIn_r _ [10, 11, 76, 77, 78, 79, 80, 81, 82, 83, 84, 85, 86] (by decide +kernel) (by decide +kernel)
set_option maxRecDepth 20000 in
theorem gX5_would_X5_finding : GoodIn wsX5_would (wsV RX5 69 RX5 yX5_finding wsX5_finding) := goodIn_app (goodIn_of _ (by decide +kernel)) ggX5_would_X5_finding
set_option maxRecDepth 20000 in
theorem ggX5_would_X5_areLanePairs : GoodIn wsX5_would wsX5_areLanePairs := goodIn_r _ [15, 5, 2, 16, 17, 18, 19, 20, 21, 76, 77, 78, 79, 80, 81, 82, 83, 84, 85, 86, 87, 88, 89] (by decide +kernel) (by decide +kernel)
set_option maxRecDepth 20000 in
theorem gX5_would_X5_areLanePairs : GoodIn wsX5_would (wsV RX5 268 RX5 yX5_areLanePairs wsX5_areLanePairs) := goodIn_app (goodIn_of _ (by decide +kernel)) ggX5_would_X5_areLanePairs
set_option maxRecDepth 20000 in
theorem ggX5_would_X4_blocks : GoodIn wsX5_would wsX4_blocks := goodIn_r _ [25] (by decide +kernel) (by decide +kernel)
set_option maxRecDepth 20000 in
theorem gX5_would_X4_blocks : GoodIn wsX5_would (va_wsS RX5 192 yX4_blocks wsX4_blocks) := goodIn_app (goodIn_of _ (by decide +kernel)) ggX5_would_X4_blocks
set_option maxRecDepth 20000 in
theorem ggX5_would_X4_start : GoodIn wsX5_would wsX4_start := goodIn_r _ [29, 30, 31, 32, 33, 34, 24, 35, 36, 90, 91] (by decide +kernel) (by decide +kernel)
set_option maxRecDepth 20000 in
theorem gX5_would_X4_start : GoodIn wsX5_would (wsV RX5 176 RX4 yX4_start wsX4_start) := goodIn_app (goodIn_of _ (by decide +kernel)) ggX5_would_X4_start
set_option maxRecDepth 20000 in
theorem ggX5_would_X4_pass : GoodIn wsX5_would wsX4_pass := goodIn_r _ [40, 41, 42, 43, 44, 19, 45, 46, 47, 48, 49, 50, 51, 52, 53, 54, 55, 56, 57, 58, 59, 60, 61, 62, 63, 64, 65, 24, 66, 32, 67, 68, 69, 70, 30, 31, 87, 88, 89, 90, 91] (by decide +kernel) (by decide +kernel)
set_option maxRecDepth 20000 in
theorem gX5_would_X4_pass : GoodIn wsX5_would (wsV RX5 179 RX4 yX4_pass wsX4_pass) := goodIn_app (goodIn_of _ (by decide +kernel)) ggX5_would_X4_pass
set_option maxRecDepth 20000 in
theorem ggX5_would_X4_step : GoodIn wsX5_would wsX4_step := goodIn_r _ [66, 32, 67, 68, 69, 24, 70, 30, 31, 90, 91] (by decide +kernel) (by decide +kernel)
set_option maxRecDepth 20000 in
theorem gX5_would_X4_step : GoodIn wsX5_would (wsV RX5 271 RX4 yX4_step wsX4_step) := goodIn_app (goodIn_of _ (by decide +kernel)) ggX5_would_X4_step
set_option maxRecDepth 20000 in
theorem ggX5_would_X4_falling : GoodIn wsX5_would wsX4_falling := goodIn_r _ [75, 32, 30, 90, 91] (by decide +kernel) (by decide +kernel)
set_option maxRecDepth 20000 in
theorem gX5_would_X4_falling : GoodIn wsX5_would (wsV RX5 205 RX4 yX4_falling wsX4_falling) := goodIn_app (goodIn_of _ (by decide +kernel)) ggX5_would_X4_falling
theorem dX5_would_0 : decode cX5_would 0 = .ok (.aload_n 0, 1) := by decide +kernel
theorem dX5_would_1 : decode cX5_would 1 = .ok (.getfield 57, 3) := by decide +kernel
theorem dX5_would_4 : decode cX5_would 4 = .ok (.istore_n 1, 1) := by decide +kernel
theorem dX5_would_5 : decode cX5_would 5 = .ok (.aload_n 0, 1) := by decide +kernel
theorem dX5_would_6 : decode cX5_would 6 = .ok (.iconst 0, 1) := by decide +kernel
theorem dX5_would_7 : decode cX5_would 7 = .ok (.putfield 57, 3) := by decide +kernel
theorem dX5_would_10 : decode cX5_would 10 = .ok (.iload_n 1, 1) := by decide +kernel
theorem dX5_would_11 : decode cX5_would 11 = .ok (.iconst 2, 1) := by decide +kernel
theorem dX5_would_12 : decode cX5_would 12 = .ok (.irem, 1) := by decide +kernel
theorem dX5_would_13 : decode cX5_would 13 = .ok (.ifCond .eq 10, 3) := by decide +kernel
theorem dX5_would_16 : decode cX5_would 16 = .ok (.aload_n 0, 1) := by decide +kernel
theorem dX5_would_17 : decode cX5_would 17 = .ok (.bipush (-3), 2) := by decide +kernel
theorem dX5_would_19 : decode cX5_would 19 = .ok (.invokevirtual 69, 3) := by decide +kernel
theorem dX5_would_22 : decode cX5_would 22 = .ok (.ireturn, 1) := by decide +kernel
theorem dX5_would_23 : decode cX5_would 23 = .ok (.aload_n 0, 1) := by decide +kernel
theorem dX5_would_24 : decode cX5_would 24 = .ok (.iload_n 1, 1) := by decide +kernel
theorem dX5_would_25 : decode cX5_would 25 = .ok (.invokevirtual 268, 3) := by decide +kernel
theorem dX5_would_28 : decode cX5_would 28 = .ok (.ifCond .ne 9, 3) := by decide +kernel
theorem dX5_would_31 : decode cX5_would 31 = .ok (.aload_n 0, 1) := by decide +kernel
theorem dX5_would_32 : decode cX5_would 32 = .ok (.iconst (-1), 1) := by decide +kernel
theorem dX5_would_33 : decode cX5_would 33 = .ok (.invokevirtual 69, 3) := by decide +kernel
theorem dX5_would_36 : decode cX5_would 36 = .ok (.ireturn, 1) := by decide +kernel
theorem dX5_would_37 : decode cX5_would 37 = .ok (.iconst 0, 1) := by decide +kernel
theorem dX5_would_38 : decode cX5_would 38 = .ok (.istore_n 2, 1) := by decide +kernel
theorem dX5_would_39 : decode cX5_would 39 = .ok (.iload_n 2, 1) := by decide +kernel
theorem dX5_would_40 : decode cX5_would 40 = .ok (.aload_n 0, 1) := by decide +kernel
theorem dX5_would_41 : decode cX5_would 41 = .ok (.getfield 10, 3) := by decide +kernel
theorem dX5_would_44 : decode cX5_would 44 = .ok (.getfield 160, 3) := by decide +kernel
theorem dX5_would_47 : decode cX5_would 47 = .ok (.invokestatic 192, 3) := by decide +kernel
theorem dX5_would_50 : decode cX5_would 50 = .ok (.if_icmp .ge 95, 3) := by decide +kernel
theorem dX5_would_53 : decode cX5_would 53 = .ok (.aload_n 0, 1) := by decide +kernel
theorem dX5_would_54 : decode cX5_would 54 = .ok (.getfield 36, 3) := by decide +kernel
theorem dX5_would_57 : decode cX5_would 57 = .ok (.aload_n 0, 1) := by decide +kernel
theorem dX5_would_58 : decode cX5_would 58 = .ok (.getfield 10, 3) := by decide +kernel
theorem dX5_would_61 : decode cX5_would 61 = .ok (.getfield 160, 3) := by decide +kernel
theorem dX5_would_64 : decode cX5_would 64 = .ok (.iload_n 2, 1) := by decide +kernel
theorem dX5_would_65 : decode cX5_would 65 = .ok (.invokevirtual 176, 3) := by decide +kernel
theorem dX5_would_68 : decode cX5_would 68 = .ok (.aload_n 0, 1) := by decide +kernel
theorem dX5_would_69 : decode cX5_would 69 = .ok (.getfield 36, 3) := by decide +kernel
theorem dX5_would_72 : decode cX5_would 72 = .ok (.aload_n 0, 1) := by decide +kernel
theorem dX5_would_73 : decode cX5_would 73 = .ok (.getfield 10, 3) := by decide +kernel
theorem dX5_would_76 : decode cX5_would 76 = .ok (.iconst (-1), 1) := by decide +kernel
theorem dX5_would_77 : decode cX5_would 77 = .ok (.invokevirtual 179, 3) := by decide +kernel
theorem dX5_would_80 : decode cX5_would 80 = .ok (.iconst 0, 1) := by decide +kernel
theorem dX5_would_81 : decode cX5_would 81 = .ok (.istore_n 3, 1) := by decide +kernel
theorem dX5_would_82 : decode cX5_would 82 = .ok (.iload_n 3, 1) := by decide +kernel
theorem dX5_would_83 : decode cX5_would 83 = .ok (.iconst 1, 1) := by decide +kernel
theorem dX5_would_84 : decode cX5_would 84 = .ok (.iadd, 1) := by decide +kernel
theorem dX5_would_85 : decode cX5_would 85 = .ok (.iload_n 1, 1) := by decide +kernel
theorem dX5_would_86 : decode cX5_would 86 = .ok (.if_icmp .ge 31, 3) := by decide +kernel
theorem dX5_would_89 : decode cX5_would 89 = .ok (.aload_n 0, 1) := by decide +kernel
theorem dX5_would_90 : decode cX5_would 90 = .ok (.getfield 36, 3) := by decide +kernel
theorem dX5_would_93 : decode cX5_would 93 = .ok (.iconst 0, 1) := by decide +kernel
theorem dX5_would_94 : decode cX5_would 94 = .ok (.aload_n 0, 1) := by decide +kernel
theorem dX5_would_95 : decode cX5_would 95 = .ok (.getfield 54, 3) := by decide +kernel
theorem dX5_would_98 : decode cX5_would 98 = .ok (.iload_n 3, 1) := by decide +kernel
theorem dX5_would_99 : decode cX5_would 99 = .ok (.iaload, 1) := by decide +kernel
theorem dX5_would_100 : decode cX5_would 100 = .ok (.aload_n 0, 1) := by decide +kernel
theorem dX5_would_101 : decode cX5_would 101 = .ok (.getfield 54, 3) := by decide +kernel
theorem dX5_would_104 : decode cX5_would 104 = .ok (.iload_n 3, 1) := by decide +kernel
theorem dX5_would_105 : decode cX5_would 105 = .ok (.iconst 1, 1) := by decide +kernel
theorem dX5_would_106 : decode cX5_would 106 = .ok (.iadd, 1) := by decide +kernel
theorem dX5_would_107 : decode cX5_would 107 = .ok (.iaload, 1) := by decide +kernel
theorem dX5_would_108 : decode cX5_would 108 = .ok (.invokevirtual 271, 3) := by decide +kernel
theorem dX5_would_111 : decode cX5_would 111 = .ok (.iinc 3 2, 3) := by decide +kernel
theorem dX5_would_114 : decode cX5_would 114 = .ok (.goto (-32), 3) := by decide +kernel
theorem dX5_would_117 : decode cX5_would 117 = .ok (.aload_n 0, 1) := by decide +kernel
theorem dX5_would_118 : decode cX5_would 118 = .ok (.getfield 36, 3) := by decide +kernel
theorem dX5_would_121 : decode cX5_would 121 = .ok (.iconst 0, 1) := by decide +kernel
theorem dX5_would_122 : decode cX5_would 122 = .ok (.aload_n 0, 1) := by decide +kernel
theorem dX5_would_123 : decode cX5_would 123 = .ok (.getfield 10, 3) := by decide +kernel
theorem dX5_would_126 : decode cX5_would 126 = .ok (.getfield 160, 3) := by decide +kernel
theorem dX5_would_129 : decode cX5_would 129 = .ok (.invokevirtual 205, 3) := by decide +kernel
theorem dX5_would_132 : decode cX5_would 132 = .ok (.lconst 0, 1) := by decide +kernel
theorem dX5_would_133 : decode cX5_would 133 = .ok (.lcmp, 1) := by decide +kernel
theorem dX5_would_134 : decode cX5_would 134 = .ok (.ifCond .eq 5, 3) := by decide +kernel
theorem dX5_would_137 : decode cX5_would 137 = .ok (.iconst 0, 1) := by decide +kernel
theorem dX5_would_138 : decode cX5_would 138 = .ok (.ireturn, 1) := by decide +kernel
theorem dX5_would_139 : decode cX5_would 139 = .ok (.iinc 2 1, 3) := by decide +kernel
theorem dX5_would_142 : decode cX5_would 142 = .ok (.goto (-103), 3) := by decide +kernel
theorem dX5_would_145 : decode cX5_would 145 = .ok (.iconst 1, 1) := by decide +kernel
theorem dX5_would_146 : decode cX5_would 146 = .ok (.ireturn, 1) := by decide +kernel
set_option maxRecDepth 20000 in
theorem ggX5_undo_X5_finding : GoodIn wsX5_undo wsX5_finding := goodIn_r _ [8, 9, 30, 31, 32, 33, 34, 35, 36, 37, 38, 39, 40] (by decide +kernel) (by decide +kernel)
set_option maxRecDepth 20000 in
theorem gX5_undo_X5_finding : GoodIn wsX5_undo (wsV RX5 69 RX5 yX5_finding wsX5_finding) := goodIn_app (goodIn_of _ (by decide +kernel)) ggX5_undo_X5_finding
set_option maxRecDepth 20000 in
theorem ggX5_undo_X2_giveBack : GoodIn wsX5_undo wsX2_giveBack := goodIn_r _ [14, 15, 16, 17, 18, 19, 20, 21, 22, 23, 24, 25, 26, 27, 28, 29, 41, 42, 43, 44, 45, 46] (by decide +kernel) (by decide +kernel)
set_option maxRecDepth 20000 in
theorem gX5_undo_X2_giveBack : GoodIn wsX5_undo (wsV RX5 277 RX2 yX2_giveBack wsX2_giveBack) := goodIn_app (goodIn_of _ (by decide +kernel)) ggX5_undo_X2_giveBack
theorem dX5_undo_0 : decode cX5_undo 0 = .ok (.aload_n 0, 1) := by decide +kernel
theorem dX5_undo_1 : decode cX5_undo 1 = .ok (.getfield 23, 3) := by decide +kernel
theorem dX5_undo_4 : decode cX5_undo 4 = .ok (.getfield 274, 3) := by decide +kernel
theorem dX5_undo_7 : decode cX5_undo 7 = .ok (.ifCond .ne 10, 3) := by decide +kernel
theorem dX5_undo_10 : decode cX5_undo 10 = .ok (.aload_n 0, 1) := by decide +kernel
theorem dX5_undo_11 : decode cX5_undo 11 = .ok (.bipush (-6), 2) := by decide +kernel
theorem dX5_undo_13 : decode cX5_undo 13 = .ok (.invokevirtual 69, 3) := by decide +kernel
theorem dX5_undo_16 : decode cX5_undo 16 = .ok (.ireturn, 1) := by decide +kernel
theorem dX5_undo_17 : decode cX5_undo 17 = .ok (.aload_n 0, 1) := by decide +kernel
theorem dX5_undo_18 : decode cX5_undo 18 = .ok (.getfield 23, 3) := by decide +kernel
theorem dX5_undo_21 : decode cX5_undo 21 = .ok (.aload_n 0, 1) := by decide +kernel
theorem dX5_undo_22 : decode cX5_undo 22 = .ok (.getfield 10, 3) := by decide +kernel
theorem dX5_undo_25 : decode cX5_undo 25 = .ok (.invokevirtual 277, 3) := by decide +kernel
theorem dX5_undo_28 : decode cX5_undo 28 = .ok (.aload_n 0, 1) := by decide +kernel
theorem dX5_undo_29 : decode cX5_undo 29 = .ok (.getfield 23, 3) := by decide +kernel
theorem dX5_undo_32 : decode cX5_undo 32 = .ok (.getfield 274, 3) := by decide +kernel
theorem dX5_undo_35 : decode cX5_undo 35 = .ok (.ireturn, 1) := by decide +kernel
set_option maxRecDepth 20000 in
theorem ggX5_told_X5_finding : GoodIn wsX5_told wsX5_finding := goodIn_r _ [10, 5, 11, 12, 13, 14, 15, 16, 17, 18, 19, 20, 21] (by decide +kernel) (by decide +kernel)
set_option maxRecDepth 20000 in
theorem gX5_told_X5_finding : GoodIn wsX5_told (wsV RX5 69 RX5 yX5_finding wsX5_finding) := goodIn_app (goodIn_of _ (by decide +kernel)) ggX5_told_X5_finding
theorem dX5_told_0 : decode cX5_told 0 = .ok (.iload_n 1, 1) := by decide +kernel
theorem dX5_told_1 : decode cX5_told 1 = .ok (.tableswitch 57 0 3 #[31, 39, 47, 52], 31) := by decide +kernel
theorem dX5_told_32 : decode cX5_told 32 = .ok (.aload_n 0, 1) := by decide +kernel
theorem dX5_told_33 : decode cX5_told 33 = .ok (.getfield 10, 3) := by decide +kernel
theorem dX5_told_36 : decode cX5_told 36 = .ok (.getfield 160, 3) := by decide +kernel
theorem dX5_told_39 : decode cX5_told 39 = .ok (.ireturn, 1) := by decide +kernel
theorem dX5_told_40 : decode cX5_told 40 = .ok (.aload_n 0, 1) := by decide +kernel
theorem dX5_told_41 : decode cX5_told 41 = .ok (.getfield 10, 3) := by decide +kernel
theorem dX5_told_44 : decode cX5_told 44 = .ok (.getfield 77, 3) := by decide +kernel
theorem dX5_told_47 : decode cX5_told 47 = .ok (.ireturn, 1) := by decide +kernel
theorem dX5_told_48 : decode cX5_told 48 = .ok (.aload_n 0, 1) := by decide +kernel
theorem dX5_told_49 : decode cX5_told 49 = .ok (.getfield 57, 3) := by decide +kernel
theorem dX5_told_52 : decode cX5_told 52 = .ok (.ireturn, 1) := by decide +kernel
theorem dX5_told_53 : decode cX5_told 53 = .ok (.aload_n 0, 1) := by decide +kernel
theorem dX5_told_54 : decode cX5_told 54 = .ok (.getfield 61, 3) := by decide +kernel
theorem dX5_told_57 : decode cX5_told 57 = .ok (.ireturn, 1) := by decide +kernel
theorem dX5_told_58 : decode cX5_told 58 = .ok (.aload_n 0, 1) := by decide +kernel
theorem dX5_told_59 : decode cX5_told 59 = .ok (.iconst (-1), 1) := by decide +kernel
theorem dX5_told_60 : decode cX5_told 60 = .ok (.invokevirtual 69, 3) := by decide +kernel
theorem dX5_told_63 : decode cX5_told 63 = .ok (.ireturn, 1) := by decide +kernel
theorem dX5_finding_0 : decode cX5_finding 0 = .ok (.aload_n 0, 1) := by decide +kernel
theorem dX5_finding_1 : decode cX5_finding 1 = .ok (.dup, 1) := by decide +kernel
theorem dX5_finding_2 : decode cX5_finding 2 = .ok (.getfield 61, 3) := by decide +kernel
theorem dX5_finding_5 : decode cX5_finding 5 = .ok (.iconst 1, 1) := by decide +kernel
theorem dX5_finding_6 : decode cX5_finding 6 = .ok (.iadd, 1) := by decide +kernel
theorem dX5_finding_7 : decode cX5_finding 7 = .ok (.putfield 61, 3) := by decide +kernel
theorem dX5_finding_10 : decode cX5_finding 10 = .ok (.iload_n 1, 1) := by decide +kernel
theorem dX5_finding_11 : decode cX5_finding 11 = .ok (.ireturn, 1) := by decide +kernel
set_option maxRecDepth 20000 in
theorem ggX5_toldOrFinding_X5_finding : GoodIn wsX5_toldOrFinding wsX5_finding := goodIn_r _ [5, 6, 7, 8, 9, 10, 11, 12, 13, 14, 15, 16, 17] (by decide +kernel) (by decide +kernel)
set_option maxRecDepth 20000 in
theorem gX5_toldOrFinding_X5_finding : GoodIn wsX5_toldOrFinding (wsV RX5 69 RX5 yX5_finding wsX5_finding) := goodIn_app (goodIn_of _ (by decide +kernel)) ggX5_toldOrFinding_X5_finding
theorem dX5_toldOrFinding_0 : decode cX5_toldOrFinding 0 = .ok (.iload_n 1, 1) := by decide +kernel
theorem dX5_toldOrFinding_1 : decode cX5_toldOrFinding 1 = .ok (.ifCond .ge 11, 3) := by decide +kernel
theorem dX5_toldOrFinding_4 : decode cX5_toldOrFinding 4 = .ok (.aload_n 0, 1) := by decide +kernel
theorem dX5_toldOrFinding_5 : decode cX5_toldOrFinding 5 = .ok (.iload_n 1, 1) := by decide +kernel
theorem dX5_toldOrFinding_6 : decode cX5_toldOrFinding 6 = .ok (.invokevirtual 69, 3) := by decide +kernel
theorem dX5_toldOrFinding_9 : decode cX5_toldOrFinding 9 = .ok (.goto 4, 3) := by decide +kernel
theorem dX5_toldOrFinding_12 : decode cX5_toldOrFinding 12 = .ok (.iload_n 1, 1) := by decide +kernel
theorem dX5_toldOrFinding_13 : decode cX5_toldOrFinding 13 = .ok (.ireturn, 1) := by decide +kernel
set_option maxRecDepth 20000 in
theorem ggX5_findingOfCrate_X5_isCrate : GoodIn wsX5_findingOfCrate wsX5_isCrate := goodIn_r _ [5] (by decide +kernel) (by decide +kernel)
set_option maxRecDepth 20000 in
theorem gX5_findingOfCrate_X5_isCrate : GoodIn wsX5_findingOfCrate (va_wsS RX5 121 yX5_isCrate wsX5_isCrate) := goodIn_app (goodIn_of _ (by decide +kernel)) ggX5_findingOfCrate_X5_isCrate
set_option maxRecDepth 20000 in
theorem ggX5_findingOfCrate_X1_isMissing : GoodIn wsX5_findingOfCrate wsX1_isMissing := goodIn_r _ [10, 11, 23, 24, 25] (by decide +kernel) (by decide +kernel)
set_option maxRecDepth 20000 in
theorem gX5_findingOfCrate_X1_isMissing : GoodIn wsX5_findingOfCrate (wsV RX5 141 RX1 yX1_isMissing wsX1_isMissing) := goodIn_app (goodIn_of _ (by decide +kernel)) ggX5_findingOfCrate_X1_isMissing
theorem dX5_findingOfCrate_0 : decode cX5_findingOfCrate 0 = .ok (.iload_n 1, 1) := by decide +kernel
theorem dX5_findingOfCrate_1 : decode cX5_findingOfCrate 1 = .ok (.invokestatic 121, 3) := by decide +kernel
theorem dX5_findingOfCrate_4 : decode cX5_findingOfCrate 4 = .ok (.ifCond .ne 5, 3) := by decide +kernel
theorem dX5_findingOfCrate_7 : decode cX5_findingOfCrate 7 = .ok (.iconst (-1), 1) := by decide +kernel
theorem dX5_findingOfCrate_8 : decode cX5_findingOfCrate 8 = .ok (.ireturn, 1) := by decide +kernel
theorem dX5_findingOfCrate_9 : decode cX5_findingOfCrate 9 = .ok (.aload_n 0, 1) := by decide +kernel
theorem dX5_findingOfCrate_10 : decode cX5_findingOfCrate 10 = .ok (.getfield 29, 3) := by decide +kernel
theorem dX5_findingOfCrate_13 : decode cX5_findingOfCrate 13 = .ok (.iload_n 1, 1) := by decide +kernel
theorem dX5_findingOfCrate_14 : decode cX5_findingOfCrate 14 = .ok (.aaload, 1) := by decide +kernel
theorem dX5_findingOfCrate_15 : decode cX5_findingOfCrate 15 = .ok (.invokevirtual 141, 3) := by decide +kernel
theorem dX5_findingOfCrate_18 : decode cX5_findingOfCrate 18 = .ok (.ifCond .eq 8, 3) := by decide +kernel
theorem dX5_findingOfCrate_21 : decode cX5_findingOfCrate 21 = .ok (.bipush (-2), 2) := by decide +kernel
theorem dX5_findingOfCrate_23 : decode cX5_findingOfCrate 23 = .ok (.goto 4, 3) := by decide +kernel
theorem dX5_findingOfCrate_26 : decode cX5_findingOfCrate 26 = .ok (.iconst 0, 1) := by decide +kernel
theorem dX5_findingOfCrate_27 : decode cX5_findingOfCrate 27 = .ok (.ireturn, 1) := by decide +kernel
set_option maxRecDepth 20000 in
theorem ggX5_findingOfLoad_X5_findingOfCrate : GoodIn wsX5_findingOfLoad wsX5_findingOfCrate := goodIn_r _ [7, 1, 8, 9, 6, 10, 11, 12, 13, 14, 15, 16, 17, 18, 19, 20, 21, 22, 23, 24, 25, 26, 27, 28, 29, 30] (by decide +kernel) (by decide +kernel)
set_option maxRecDepth 20000 in
theorem gX5_findingOfLoad_X5_findingOfCrate : GoodIn wsX5_findingOfLoad (wsV RX5 156 RX5 yX5_findingOfCrate wsX5_findingOfCrate) := goodIn_app (goodIn_of _ (by decide +kernel)) ggX5_findingOfLoad_X5_findingOfCrate
theorem dX5_findingOfLoad_0 : decode cX5_findingOfLoad 0 = .ok (.aload_n 0, 1) := by decide +kernel
theorem dX5_findingOfLoad_1 : decode cX5_findingOfLoad 1 = .ok (.iload_n 1, 1) := by decide +kernel
theorem dX5_findingOfLoad_2 : decode cX5_findingOfLoad 2 = .ok (.invokevirtual 156, 3) := by decide +kernel
theorem dX5_findingOfLoad_5 : decode cX5_findingOfLoad 5 = .ok (.istore_n 3, 1) := by decide +kernel
theorem dX5_findingOfLoad_6 : decode cX5_findingOfLoad 6 = .ok (.iload_n 3, 1) := by decide +kernel
theorem dX5_findingOfLoad_7 : decode cX5_findingOfLoad 7 = .ok (.ifCond .ge 5, 3) := by decide +kernel
theorem dX5_findingOfLoad_10 : decode cX5_findingOfLoad 10 = .ok (.iload_n 3, 1) := by decide +kernel
theorem dX5_findingOfLoad_11 : decode cX5_findingOfLoad 11 = .ok (.ireturn, 1) := by decide +kernel
theorem dX5_findingOfLoad_12 : decode cX5_findingOfLoad 12 = .ok (.iload_n 2, 1) := by decide +kernel
theorem dX5_findingOfLoad_13 : decode cX5_findingOfLoad 13 = .ok (.ifCond .lt 16, 3) := by decide +kernel
theorem dX5_findingOfLoad_16 : decode cX5_findingOfLoad 16 = .ok (.iload_n 2, 1) := by decide +kernel
theorem dX5_findingOfLoad_17 : decode cX5_findingOfLoad 17 = .ok (.aload_n 0, 1) := by decide +kernel
theorem dX5_findingOfLoad_18 : decode cX5_findingOfLoad 18 = .ok (.getfield 29, 3) := by decide +kernel
theorem dX5_findingOfLoad_21 : decode cX5_findingOfLoad 21 = .ok (.iload_n 1, 1) := by decide +kernel
theorem dX5_findingOfLoad_22 : decode cX5_findingOfLoad 22 = .ok (.aaload, 1) := by decide +kernel
theorem dX5_findingOfLoad_23 : decode cX5_findingOfLoad 23 = .ok (.getfield 159, 3) := by decide +kernel
theorem dX5_findingOfLoad_26 : decode cX5_findingOfLoad 26 = .ok (.if_icmp .lt 7, 3) := by decide +kernel
theorem dX5_findingOfLoad_29 : decode cX5_findingOfLoad 29 = .ok (.iconst (-1), 1) := by decide +kernel
theorem dX5_findingOfLoad_30 : decode cX5_findingOfLoad 30 = .ok (.goto 4, 3) := by decide +kernel
theorem dX5_findingOfLoad_33 : decode cX5_findingOfLoad 33 = .ok (.iconst 0, 1) := by decide +kernel
theorem dX5_findingOfLoad_34 : decode cX5_findingOfLoad 34 = .ok (.ireturn, 1) := by decide +kernel
set_option maxRecDepth 20000 in
theorem ggX5_findingOfSlot_X5_isSlot : GoodIn wsX5_findingOfSlot wsX5_isSlot := goodIn_r _ [5] (by decide +kernel) (by decide +kernel)
set_option maxRecDepth 20000 in
theorem gX5_findingOfSlot_X5_isSlot : GoodIn wsX5_findingOfSlot (va_wsS RX5 248 yX5_isSlot wsX5_isSlot) := goodIn_app (goodIn_of _ (by decide +kernel)) ggX5_findingOfSlot_X5_isSlot
set_option maxRecDepth 20000 in
theorem ggX5_findingOfSlot_X3_isNone : GoodIn wsX5_findingOfSlot wsX3_isNone := goodIn_r _ [10, 11, 23, 24, 25] (by decide +kernel) (by decide +kernel)
set_option maxRecDepth 20000 in
theorem gX5_findingOfSlot_X3_isNone : GoodIn wsX5_findingOfSlot (wsV RX5 280 RX3 yX3_isNone wsX3_isNone) := goodIn_app (goodIn_of _ (by decide +kernel)) ggX5_findingOfSlot_X3_isNone
theorem dX5_findingOfSlot_0 : decode cX5_findingOfSlot 0 = .ok (.iload_n 1, 1) := by decide +kernel
theorem dX5_findingOfSlot_1 : decode cX5_findingOfSlot 1 = .ok (.invokestatic 248, 3) := by decide +kernel
theorem dX5_findingOfSlot_4 : decode cX5_findingOfSlot 4 = .ok (.ifCond .ne 5, 3) := by decide +kernel
theorem dX5_findingOfSlot_7 : decode cX5_findingOfSlot 7 = .ok (.iconst (-1), 1) := by decide +kernel
theorem dX5_findingOfSlot_8 : decode cX5_findingOfSlot 8 = .ok (.ireturn, 1) := by decide +kernel
theorem dX5_findingOfSlot_9 : decode cX5_findingOfSlot 9 = .ok (.aload_n 0, 1) := by decide +kernel
theorem dX5_findingOfSlot_10 : decode cX5_findingOfSlot 10 = .ok (.getfield 16, 3) := by decide +kernel
theorem dX5_findingOfSlot_13 : decode cX5_findingOfSlot 13 = .ok (.iload_n 1, 1) := by decide +kernel
theorem dX5_findingOfSlot_14 : decode cX5_findingOfSlot 14 = .ok (.aaload, 1) := by decide +kernel
theorem dX5_findingOfSlot_15 : decode cX5_findingOfSlot 15 = .ok (.invokevirtual 280, 3) := by decide +kernel
theorem dX5_findingOfSlot_18 : decode cX5_findingOfSlot 18 = .ok (.ifCond .eq 8, 3) := by decide +kernel
theorem dX5_findingOfSlot_21 : decode cX5_findingOfSlot 21 = .ok (.bipush (-6), 2) := by decide +kernel
theorem dX5_findingOfSlot_23 : decode cX5_findingOfSlot 23 = .ok (.goto 4, 3) := by decide +kernel
theorem dX5_findingOfSlot_26 : decode cX5_findingOfSlot 26 = .ok (.iconst 0, 1) := by decide +kernel
theorem dX5_findingOfSlot_27 : decode cX5_findingOfSlot 27 = .ok (.ireturn, 1) := by decide +kernel
set_option maxRecDepth 20000 in
theorem ggX5_findingOfFit_X5_findingOfSlot : GoodIn wsX5_findingOfFit wsX5_findingOfSlot := goodIn_r _ [8, 1, 9, 10, 7, 11, 12, 13, 14, 15, 16, 17, 18, 19, 20, 21, 22, 23, 24, 25, 26, 27, 28, 29, 30, 31] (by decide +kernel) (by decide +kernel)
set_option maxRecDepth 20000 in
theorem gX5_findingOfFit_X5_findingOfSlot : GoodIn wsX5_findingOfFit (wsV RX5 254 RX5 yX5_findingOfSlot wsX5_findingOfSlot) := goodIn_app (goodIn_of _ (by decide +kernel)) ggX5_findingOfFit_X5_findingOfSlot
theorem dX5_findingOfFit_0 : decode cX5_findingOfFit 0 = .ok (.aload_n 0, 1) := by decide +kernel
theorem dX5_findingOfFit_1 : decode cX5_findingOfFit 1 = .ok (.iload_n 1, 1) := by decide +kernel
theorem dX5_findingOfFit_2 : decode cX5_findingOfFit 2 = .ok (.invokevirtual 254, 3) := by decide +kernel
theorem dX5_findingOfFit_5 : decode cX5_findingOfFit 5 = .ok (.istore_n 2, 1) := by decide +kernel
theorem dX5_findingOfFit_6 : decode cX5_findingOfFit 6 = .ok (.iload_n 2, 1) := by decide +kernel
theorem dX5_findingOfFit_7 : decode cX5_findingOfFit 7 = .ok (.ifCond .ge 5, 3) := by decide +kernel
theorem dX5_findingOfFit_10 : decode cX5_findingOfFit 10 = .ok (.iload_n 2, 1) := by decide +kernel
theorem dX5_findingOfFit_11 : decode cX5_findingOfFit 11 = .ok (.ireturn, 1) := by decide +kernel
theorem dX5_findingOfFit_12 : decode cX5_findingOfFit 12 = .ok (.aload_n 0, 1) := by decide +kernel
theorem dX5_findingOfFit_13 : decode cX5_findingOfFit 13 = .ok (.getfield 16, 3) := by decide +kernel
theorem dX5_findingOfFit_16 : decode cX5_findingOfFit 16 = .ok (.iload_n 1, 1) := by decide +kernel
theorem dX5_findingOfFit_17 : decode cX5_findingOfFit 17 = .ok (.aaload, 1) := by decide +kernel
theorem dX5_findingOfFit_18 : decode cX5_findingOfFit 18 = .ok (.getfield 160, 3) := by decide +kernel
theorem dX5_findingOfFit_21 : decode cX5_findingOfFit 21 = .ok (.aload_n 0, 1) := by decide +kernel
theorem dX5_findingOfFit_22 : decode cX5_findingOfFit 22 = .ok (.getfield 10, 3) := by decide +kernel
theorem dX5_findingOfFit_25 : decode cX5_findingOfFit 25 = .ok (.getfield 160, 3) := by decide +kernel
theorem dX5_findingOfFit_28 : decode cX5_findingOfFit 28 = .ok (.if_icmp .eq 8, 3) := by decide +kernel
theorem dX5_findingOfFit_31 : decode cX5_findingOfFit 31 = .ok (.bipush (-3), 2) := by decide +kernel
theorem dX5_findingOfFit_33 : decode cX5_findingOfFit 33 = .ok (.goto 4, 3) := by decide +kernel
theorem dX5_findingOfFit_36 : decode cX5_findingOfFit 36 = .ok (.iconst 0, 1) := by decide +kernel
theorem dX5_findingOfFit_37 : decode cX5_findingOfFit 37 = .ok (.ireturn, 1) := by decide +kernel
theorem dX5_isKind_0 : decode cX5_isKind 0 = .ok (.iload_n 0, 1) := by decide +kernel
theorem dX5_isKind_1 : decode cX5_isKind 1 = .ok (.ifCond .lt 12, 3) := by decide +kernel
theorem dX5_isKind_4 : decode cX5_isKind 4 = .ok (.iload_n 0, 1) := by decide +kernel
theorem dX5_isKind_5 : decode cX5_isKind 5 = .ok (.iconst 5, 1) := by decide +kernel
theorem dX5_isKind_6 : decode cX5_isKind 6 = .ok (.if_icmp .ge 7, 3) := by decide +kernel
theorem dX5_isKind_9 : decode cX5_isKind 9 = .ok (.iconst 1, 1) := by decide +kernel
theorem dX5_isKind_10 : decode cX5_isKind 10 = .ok (.goto 4, 3) := by decide +kernel
theorem dX5_isKind_13 : decode cX5_isKind 13 = .ok (.iconst 0, 1) := by decide +kernel
theorem dX5_isKind_14 : decode cX5_isKind 14 = .ok (.ireturn, 1) := by decide +kernel
theorem dX5_isCrate_0 : decode cX5_isCrate 0 = .ok (.iload_n 0, 1) := by decide +kernel
theorem dX5_isCrate_1 : decode cX5_isCrate 1 = .ok (.ifCond .lt 13, 3) := by decide +kernel
theorem dX5_isCrate_4 : decode cX5_isCrate 4 = .ok (.iload_n 0, 1) := by decide +kernel
theorem dX5_isCrate_5 : decode cX5_isCrate 5 = .ok (.bipush 6, 2) := by decide +kernel
theorem dX5_isCrate_7 : decode cX5_isCrate 7 = .ok (.if_icmp .ge 7, 3) := by decide +kernel
theorem dX5_isCrate_10 : decode cX5_isCrate 10 = .ok (.iconst 1, 1) := by decide +kernel
theorem dX5_isCrate_11 : decode cX5_isCrate 11 = .ok (.goto 4, 3) := by decide +kernel
theorem dX5_isCrate_14 : decode cX5_isCrate 14 = .ok (.iconst 0, 1) := by decide +kernel
theorem dX5_isCrate_15 : decode cX5_isCrate 15 = .ok (.ireturn, 1) := by decide +kernel
theorem dX5_isSlot_0 : decode cX5_isSlot 0 = .ok (.iload_n 0, 1) := by decide +kernel
theorem dX5_isSlot_1 : decode cX5_isSlot 1 = .ok (.ifCond .lt 12, 3) := by decide +kernel
theorem dX5_isSlot_4 : decode cX5_isSlot 4 = .ok (.iload_n 0, 1) := by decide +kernel
theorem dX5_isSlot_5 : decode cX5_isSlot 5 = .ok (.iconst 4, 1) := by decide +kernel
theorem dX5_isSlot_6 : decode cX5_isSlot 6 = .ok (.if_icmp .ge 7, 3) := by decide +kernel
theorem dX5_isSlot_9 : decode cX5_isSlot 9 = .ok (.iconst 1, 1) := by decide +kernel
theorem dX5_isSlot_10 : decode cX5_isSlot 10 = .ok (.goto 4, 3) := by decide +kernel
theorem dX5_isSlot_13 : decode cX5_isSlot 13 = .ok (.iconst 0, 1) := by decide +kernel
theorem dX5_isSlot_14 : decode cX5_isSlot 14 = .ok (.ireturn, 1) := by decide +kernel
theorem dX5_isIn_0 : decode cX5_isIn 0 = .ok (.lload_n 0, 1) := by decide +kernel
theorem dX5_isIn_1 : decode cX5_isIn 1 = .ok (.iload_n 2, 1) := by decide +kernel
theorem dX5_isIn_2 : decode cX5_isIn 2 = .ok (.lushr, 1) := by decide +kernel
theorem dX5_isIn_3 : decode cX5_isIn 3 = .ok (.lconst 1, 1) := by decide +kernel
theorem dX5_isIn_4 : decode cX5_isIn 4 = .ok (.land, 1) := by decide +kernel
theorem dX5_isIn_5 : decode cX5_isIn 5 = .ok (.lconst 0, 1) := by decide +kernel
theorem dX5_isIn_6 : decode cX5_isIn 6 = .ok (.lcmp, 1) := by decide +kernel
theorem dX5_isIn_7 : decode cX5_isIn 7 = .ok (.ifCond .eq 7, 3) := by decide +kernel
theorem dX5_isIn_10 : decode cX5_isIn 10 = .ok (.iconst 1, 1) := by decide +kernel
theorem dX5_isIn_11 : decode cX5_isIn 11 = .ok (.goto 4, 3) := by decide +kernel
theorem dX5_isIn_14 : decode cX5_isIn 14 = .ok (.iconst 0, 1) := by decide +kernel
theorem dX5_isIn_15 : decode cX5_isIn 15 = .ok (.ireturn, 1) := by decide +kernel
set_option maxRecDepth 20000 in
theorem ggX5_isUnder_X5_isKind : GoodIn wsX5_isUnder wsX5_isKind := goodIn_r _ [5] (by decide +kernel) (by decide +kernel)
set_option maxRecDepth 20000 in
theorem gX5_isUnder_X5_isKind : GoodIn wsX5_isUnder (va_wsS RX5 80 yX5_isKind wsX5_isKind) := goodIn_app (goodIn_of _ (by decide +kernel)) ggX5_isUnder_X5_isKind
theorem dX5_isUnder_0 : decode cX5_isUnder 0 = .ok (.iload_n 0, 1) := by decide +kernel
theorem dX5_isUnder_1 : decode cX5_isUnder 1 = .ok (.istore_n 2, 1) := by decide +kernel
theorem dX5_isUnder_2 : decode cX5_isUnder 2 = .ok (.iconst 0, 1) := by decide +kernel
theorem dX5_isUnder_3 : decode cX5_isUnder 3 = .ok (.istore_n 3, 1) := by decide +kernel
theorem dX5_isUnder_4 : decode cX5_isUnder 4 = .ok (.iload_n 3, 1) := by decide +kernel
theorem dX5_isUnder_5 : decode cX5_isUnder 5 = .ok (.iconst 5, 1) := by decide +kernel
theorem dX5_isUnder_6 : decode cX5_isUnder 6 = .ok (.if_icmp .ge 29, 3) := by decide +kernel
theorem dX5_isUnder_9 : decode cX5_isUnder 9 = .ok (.iload_n 2, 1) := by decide +kernel
theorem dX5_isUnder_10 : decode cX5_isUnder 10 = .ok (.invokestatic 80, 3) := by decide +kernel
theorem dX5_isUnder_13 : decode cX5_isUnder 13 = .ok (.ifCond .eq 22, 3) := by decide +kernel
theorem dX5_isUnder_16 : decode cX5_isUnder 16 = .ok (.iload_n 2, 1) := by decide +kernel
theorem dX5_isUnder_17 : decode cX5_isUnder 17 = .ok (.iload_n 1, 1) := by decide +kernel
theorem dX5_isUnder_18 : decode cX5_isUnder 18 = .ok (.if_icmp .ne 5, 3) := by decide +kernel
theorem dX5_isUnder_21 : decode cX5_isUnder 21 = .ok (.iconst 1, 1) := by decide +kernel
theorem dX5_isUnder_22 : decode cX5_isUnder 22 = .ok (.ireturn, 1) := by decide +kernel
theorem dX5_isUnder_23 : decode cX5_isUnder 23 = .ok (.getstatic 283, 3) := by decide +kernel
theorem dX5_isUnder_26 : decode cX5_isUnder 26 = .ok (.iload_n 2, 1) := by decide +kernel
theorem dX5_isUnder_27 : decode cX5_isUnder 27 = .ok (.iaload, 1) := by decide +kernel
theorem dX5_isUnder_28 : decode cX5_isUnder 28 = .ok (.istore_n 2, 1) := by decide +kernel
theorem dX5_isUnder_29 : decode cX5_isUnder 29 = .ok (.iinc 3 1, 3) := by decide +kernel
theorem dX5_isUnder_32 : decode cX5_isUnder 32 = .ok (.goto (-28), 3) := by decide +kernel
theorem dX5_isUnder_35 : decode cX5_isUnder 35 = .ok (.iconst 0, 1) := by decide +kernel
theorem dX5_isUnder_36 : decode cX5_isUnder 36 = .ok (.ireturn, 1) := by decide +kernel
theorem dX5_changesPlaces_0 : decode cX5_changesPlaces 0 = .ok (.iload_n 0, 1) := by decide +kernel
theorem dX5_changesPlaces_1 : decode cX5_changesPlaces 1 = .ok (.lookupswitch 49 #[(0, 27), (1, 38)], 27) := by decide +kernel
theorem dX5_changesPlaces_28 : decode cX5_changesPlaces 28 = .ok (.iload_n 1, 1) := by decide +kernel
theorem dX5_changesPlaces_29 : decode cX5_changesPlaces 29 = .ok (.iload_n 2, 1) := by decide +kernel
theorem dX5_changesPlaces_30 : decode cX5_changesPlaces 30 = .ok (.if_icmp .le 7, 3) := by decide +kernel
theorem dX5_changesPlaces_33 : decode cX5_changesPlaces 33 = .ok (.iconst 1, 1) := by decide +kernel
theorem dX5_changesPlaces_34 : decode cX5_changesPlaces 34 = .ok (.goto 4, 3) := by decide +kernel
theorem dX5_changesPlaces_37 : decode cX5_changesPlaces 37 = .ok (.iconst 0, 1) := by decide +kernel
theorem dX5_changesPlaces_38 : decode cX5_changesPlaces 38 = .ok (.ireturn, 1) := by decide +kernel
theorem dX5_changesPlaces_39 : decode cX5_changesPlaces 39 = .ok (.iload_n 2, 1) := by decide +kernel
theorem dX5_changesPlaces_40 : decode cX5_changesPlaces 40 = .ok (.iload_n 1, 1) := by decide +kernel
theorem dX5_changesPlaces_41 : decode cX5_changesPlaces 41 = .ok (.if_icmp .le 7, 3) := by decide +kernel
theorem dX5_changesPlaces_44 : decode cX5_changesPlaces 44 = .ok (.iconst 1, 1) := by decide +kernel
theorem dX5_changesPlaces_45 : decode cX5_changesPlaces 45 = .ok (.goto 4, 3) := by decide +kernel
theorem dX5_changesPlaces_48 : decode cX5_changesPlaces 48 = .ok (.iconst 0, 1) := by decide +kernel
theorem dX5_changesPlaces_49 : decode cX5_changesPlaces 49 = .ok (.ireturn, 1) := by decide +kernel
theorem dX5_changesPlaces_50 : decode cX5_changesPlaces 50 = .ok (.iload_n 0, 1) := by decide +kernel
theorem dX5_changesPlaces_51 : decode cX5_changesPlaces 51 = .ok (.iconst 3, 1) := by decide +kernel
theorem dX5_changesPlaces_52 : decode cX5_changesPlaces 52 = .ok (.if_icmp .ne 7, 3) := by decide +kernel
theorem dX5_changesPlaces_55 : decode cX5_changesPlaces 55 = .ok (.iconst 1, 1) := by decide +kernel
theorem dX5_changesPlaces_56 : decode cX5_changesPlaces 56 = .ok (.goto 4, 3) := by decide +kernel
theorem dX5_changesPlaces_59 : decode cX5_changesPlaces 59 = .ok (.iconst 0, 1) := by decide +kernel
theorem dX5_changesPlaces_60 : decode cX5_changesPlaces 60 = .ok (.ireturn, 1) := by decide +kernel
set_option maxRecDepth 20000 in
theorem ggX5_areLanePairs_X3_hasLane : GoodIn wsX5_areLanePairs wsX3_hasLane := goodIn_r _ [7, 8, 20, 21, 22] (by decide +kernel) (by decide +kernel)
set_option maxRecDepth 20000 in
theorem gX5_areLanePairs_X3_hasLane : GoodIn wsX5_areLanePairs (wsV RX5 84 RX3 yX3_hasLane wsX3_hasLane) := goodIn_app (goodIn_of _ (by decide +kernel)) ggX5_areLanePairs_X3_hasLane
theorem dX5_areLanePairs_0 : decode cX5_areLanePairs 0 = .ok (.iconst 0, 1) := by decide +kernel
theorem dX5_areLanePairs_1 : decode cX5_areLanePairs 1 = .ok (.istore_n 2, 1) := by decide +kernel
theorem dX5_areLanePairs_2 : decode cX5_areLanePairs 2 = .ok (.iload_n 2, 1) := by decide +kernel
theorem dX5_areLanePairs_3 : decode cX5_areLanePairs 3 = .ok (.iconst 1, 1) := by decide +kernel
theorem dX5_areLanePairs_4 : decode cX5_areLanePairs 4 = .ok (.iadd, 1) := by decide +kernel
theorem dX5_areLanePairs_5 : decode cX5_areLanePairs 5 = .ok (.iload_n 1, 1) := by decide +kernel
theorem dX5_areLanePairs_6 : decode cX5_areLanePairs 6 = .ok (.if_icmp .ge 57, 3) := by decide +kernel
theorem dX5_areLanePairs_9 : decode cX5_areLanePairs 9 = .ok (.aload_n 0, 1) := by decide +kernel
theorem dX5_areLanePairs_10 : decode cX5_areLanePairs 10 = .ok (.getfield 54, 3) := by decide +kernel
theorem dX5_areLanePairs_13 : decode cX5_areLanePairs 13 = .ok (.iload_n 2, 1) := by decide +kernel
theorem dX5_areLanePairs_14 : decode cX5_areLanePairs 14 = .ok (.iaload, 1) := by decide +kernel
theorem dX5_areLanePairs_15 : decode cX5_areLanePairs 15 = .ok (.istore_n 3, 1) := by decide +kernel
theorem dX5_areLanePairs_16 : decode cX5_areLanePairs 16 = .ok (.aload_n 0, 1) := by decide +kernel
theorem dX5_areLanePairs_17 : decode cX5_areLanePairs 17 = .ok (.getfield 54, 3) := by decide +kernel
theorem dX5_areLanePairs_20 : decode cX5_areLanePairs 20 = .ok (.iload_n 2, 1) := by decide +kernel
theorem dX5_areLanePairs_21 : decode cX5_areLanePairs 21 = .ok (.iconst 1, 1) := by decide +kernel
theorem dX5_areLanePairs_22 : decode cX5_areLanePairs 22 = .ok (.iadd, 1) := by decide +kernel
theorem dX5_areLanePairs_23 : decode cX5_areLanePairs 23 = .ok (.iaload, 1) := by decide +kernel
theorem dX5_areLanePairs_24 : decode cX5_areLanePairs 24 = .ok (.istore 4, 2) := by decide +kernel
theorem dX5_areLanePairs_26 : decode cX5_areLanePairs 26 = .ok (.aload_n 0, 1) := by decide +kernel
theorem dX5_areLanePairs_27 : decode cX5_areLanePairs 27 = .ok (.getfield 10, 3) := by decide +kernel
theorem dX5_areLanePairs_30 : decode cX5_areLanePairs 30 = .ok (.iload_n 3, 1) := by decide +kernel
theorem dX5_areLanePairs_31 : decode cX5_areLanePairs 31 = .ok (.invokevirtual 84, 3) := by decide +kernel
theorem dX5_areLanePairs_34 : decode cX5_areLanePairs 34 = .ok (.ifCond .eq 21, 3) := by decide +kernel
theorem dX5_areLanePairs_37 : decode cX5_areLanePairs 37 = .ok (.aload_n 0, 1) := by decide +kernel
theorem dX5_areLanePairs_38 : decode cX5_areLanePairs 38 = .ok (.getfield 10, 3) := by decide +kernel
theorem dX5_areLanePairs_41 : decode cX5_areLanePairs 41 = .ok (.iload 4, 2) := by decide +kernel
theorem dX5_areLanePairs_43 : decode cX5_areLanePairs 43 = .ok (.invokevirtual 84, 3) := by decide +kernel
theorem dX5_areLanePairs_46 : decode cX5_areLanePairs 46 = .ok (.ifCond .eq 9, 3) := by decide +kernel
theorem dX5_areLanePairs_49 : decode cX5_areLanePairs 49 = .ok (.iload_n 3, 1) := by decide +kernel
theorem dX5_areLanePairs_50 : decode cX5_areLanePairs 50 = .ok (.iload 4, 2) := by decide +kernel
theorem dX5_areLanePairs_52 : decode cX5_areLanePairs 52 = .ok (.if_icmp .lt 5, 3) := by decide +kernel
theorem dX5_areLanePairs_55 : decode cX5_areLanePairs 55 = .ok (.iconst 0, 1) := by decide +kernel
theorem dX5_areLanePairs_56 : decode cX5_areLanePairs 56 = .ok (.ireturn, 1) := by decide +kernel
theorem dX5_areLanePairs_57 : decode cX5_areLanePairs 57 = .ok (.iinc 2 2, 3) := by decide +kernel
theorem dX5_areLanePairs_60 : decode cX5_areLanePairs 60 = .ok (.goto (-58), 3) := by decide +kernel
theorem dX5_areLanePairs_63 : decode cX5_areLanePairs 63 = .ok (.iconst 1, 1) := by decide +kernel
theorem dX5_areLanePairs_64 : decode cX5_areLanePairs 64 = .ok (.ireturn, 1) := by decide +kernel
set_option maxRecDepth 20000 in
theorem ggX5_lastRound_X3_low : GoodIn wsX5_lastRound wsX3_low := goodIn_r _ [12, 13, 29, 30, 31] (by decide +kernel) (by decide +kernel)
set_option maxRecDepth 20000 in
theorem gX5_lastRound_X3_low : GoodIn wsX5_lastRound (wsV RX5 97 RX3 yX3_low wsX3_low) := goodIn_app (goodIn_of _ (by decide +kernel)) ggX5_lastRound_X3_low
set_option maxRecDepth 20000 in
theorem ggX5_lastRound_X3_high : GoodIn wsX5_lastRound wsX3_high := goodIn_r _ [17, 13, 29, 30, 31] (by decide +kernel) (by decide +kernel)
set_option maxRecDepth 20000 in
theorem gX5_lastRound_X3_high : GoodIn wsX5_lastRound (wsV RX5 100 RX3 yX3_high wsX3_high) := goodIn_app (goodIn_of _ (by decide +kernel)) ggX5_lastRound_X3_high
theorem dX5_lastRound_0 : decode cX5_lastRound 0 = .ok (.iconst 0, 1) := by decide +kernel
theorem dX5_lastRound_1 : decode cX5_lastRound 1 = .ok (.istore_n 2, 1) := by decide +kernel
theorem dX5_lastRound_2 : decode cX5_lastRound 2 = .ok (.iload_n 2, 1) := by decide +kernel
theorem dX5_lastRound_3 : decode cX5_lastRound 3 = .ok (.bipush 8, 2) := by decide +kernel
theorem dX5_lastRound_5 : decode cX5_lastRound 5 = .ok (.if_icmp .ge 16, 3) := by decide +kernel
theorem dX5_lastRound_8 : decode cX5_lastRound 8 = .ok (.aload_n 0, 1) := by decide +kernel
theorem dX5_lastRound_9 : decode cX5_lastRound 9 = .ok (.getfield 50, 3) := by decide +kernel
theorem dX5_lastRound_12 : decode cX5_lastRound 12 = .ok (.iload_n 2, 1) := by decide +kernel
theorem dX5_lastRound_13 : decode cX5_lastRound 13 = .ok (.iconst 0, 1) := by decide +kernel
theorem dX5_lastRound_14 : decode cX5_lastRound 14 = .ok (.iastore, 1) := by decide +kernel
theorem dX5_lastRound_15 : decode cX5_lastRound 15 = .ok (.iinc 2 1, 3) := by decide +kernel
theorem dX5_lastRound_18 : decode cX5_lastRound 18 = .ok (.goto (-16), 3) := by decide +kernel
theorem dX5_lastRound_21 : decode cX5_lastRound 21 = .ok (.iconst 0, 1) := by decide +kernel
theorem dX5_lastRound_22 : decode cX5_lastRound 22 = .ok (.istore_n 2, 1) := by decide +kernel
theorem dX5_lastRound_23 : decode cX5_lastRound 23 = .ok (.iconst 0, 1) := by decide +kernel
theorem dX5_lastRound_24 : decode cX5_lastRound 24 = .ok (.istore_n 3, 1) := by decide +kernel
theorem dX5_lastRound_25 : decode cX5_lastRound 25 = .ok (.iload_n 3, 1) := by decide +kernel
theorem dX5_lastRound_26 : decode cX5_lastRound 26 = .ok (.iload_n 1, 1) := by decide +kernel
theorem dX5_lastRound_27 : decode cX5_lastRound 27 = .ok (.if_icmp .ge 86, 3) := by decide +kernel
theorem dX5_lastRound_30 : decode cX5_lastRound 30 = .ok (.iload_n 3, 1) := by decide +kernel
theorem dX5_lastRound_31 : decode cX5_lastRound 31 = .ok (.aload_n 0, 1) := by decide +kernel
theorem dX5_lastRound_32 : decode cX5_lastRound 32 = .ok (.getfield 10, 3) := by decide +kernel
theorem dX5_lastRound_35 : decode cX5_lastRound 35 = .ok (.getfield 77, 3) := by decide +kernel
theorem dX5_lastRound_38 : decode cX5_lastRound 38 = .ok (.if_icmp .ge 75, 3) := by decide +kernel
theorem dX5_lastRound_41 : decode cX5_lastRound 41 = .ok (.aload_n 0, 1) := by decide +kernel
theorem dX5_lastRound_42 : decode cX5_lastRound 42 = .ok (.getfield 10, 3) := by decide +kernel
theorem dX5_lastRound_45 : decode cX5_lastRound 45 = .ok (.iload_n 3, 1) := by decide +kernel
theorem dX5_lastRound_46 : decode cX5_lastRound 46 = .ok (.invokevirtual 97, 3) := by decide +kernel
theorem dX5_lastRound_49 : decode cX5_lastRound 49 = .ok (.istore 4, 2) := by decide +kernel
theorem dX5_lastRound_51 : decode cX5_lastRound 51 = .ok (.aload_n 0, 1) := by decide +kernel
theorem dX5_lastRound_52 : decode cX5_lastRound 52 = .ok (.getfield 10, 3) := by decide +kernel
theorem dX5_lastRound_55 : decode cX5_lastRound 55 = .ok (.iload_n 3, 1) := by decide +kernel
theorem dX5_lastRound_56 : decode cX5_lastRound 56 = .ok (.invokevirtual 100, 3) := by decide +kernel
theorem dX5_lastRound_59 : decode cX5_lastRound 59 = .ok (.istore 5, 2) := by decide +kernel
theorem dX5_lastRound_61 : decode cX5_lastRound 61 = .ok (.aload_n 0, 1) := by decide +kernel
theorem dX5_lastRound_62 : decode cX5_lastRound 62 = .ok (.getfield 50, 3) := by decide +kernel
theorem dX5_lastRound_65 : decode cX5_lastRound 65 = .ok (.iload 4, 2) := by decide +kernel
theorem dX5_lastRound_67 : decode cX5_lastRound 67 = .ok (.iaload, 1) := by decide +kernel
theorem dX5_lastRound_68 : decode cX5_lastRound 68 = .ok (.aload_n 0, 1) := by decide +kernel
theorem dX5_lastRound_69 : decode cX5_lastRound 69 = .ok (.getfield 50, 3) := by decide +kernel
theorem dX5_lastRound_72 : decode cX5_lastRound 72 = .ok (.iload 5, 2) := by decide +kernel
theorem dX5_lastRound_74 : decode cX5_lastRound 74 = .ok (.iaload, 1) := by decide +kernel
theorem dX5_lastRound_75 : decode cX5_lastRound 75 = .ok (.invokestatic 226, 3) := by decide +kernel
theorem dX5_lastRound_78 : decode cX5_lastRound 78 = .ok (.iconst 1, 1) := by decide +kernel
theorem dX5_lastRound_79 : decode cX5_lastRound 79 = .ok (.iadd, 1) := by decide +kernel
theorem dX5_lastRound_80 : decode cX5_lastRound 80 = .ok (.istore 6, 2) := by decide +kernel
theorem dX5_lastRound_82 : decode cX5_lastRound 82 = .ok (.aload_n 0, 1) := by decide +kernel
theorem dX5_lastRound_83 : decode cX5_lastRound 83 = .ok (.getfield 50, 3) := by decide +kernel
theorem dX5_lastRound_86 : decode cX5_lastRound 86 = .ok (.iload 4, 2) := by decide +kernel
theorem dX5_lastRound_88 : decode cX5_lastRound 88 = .ok (.iload 6, 2) := by decide +kernel
theorem dX5_lastRound_90 : decode cX5_lastRound 90 = .ok (.iastore, 1) := by decide +kernel
theorem dX5_lastRound_91 : decode cX5_lastRound 91 = .ok (.aload_n 0, 1) := by decide +kernel
theorem dX5_lastRound_92 : decode cX5_lastRound 92 = .ok (.getfield 50, 3) := by decide +kernel
theorem dX5_lastRound_95 : decode cX5_lastRound 95 = .ok (.iload 5, 2) := by decide +kernel
theorem dX5_lastRound_97 : decode cX5_lastRound 97 = .ok (.iload 6, 2) := by decide +kernel
theorem dX5_lastRound_99 : decode cX5_lastRound 99 = .ok (.iastore, 1) := by decide +kernel
theorem dX5_lastRound_100 : decode cX5_lastRound 100 = .ok (.iload_n 2, 1) := by decide +kernel
theorem dX5_lastRound_101 : decode cX5_lastRound 101 = .ok (.iload 6, 2) := by decide +kernel
theorem dX5_lastRound_103 : decode cX5_lastRound 103 = .ok (.invokestatic 226, 3) := by decide +kernel
theorem dX5_lastRound_106 : decode cX5_lastRound 106 = .ok (.istore_n 2, 1) := by decide +kernel
theorem dX5_lastRound_107 : decode cX5_lastRound 107 = .ok (.iinc 3 1, 3) := by decide +kernel
theorem dX5_lastRound_110 : decode cX5_lastRound 110 = .ok (.goto (-85), 3) := by decide +kernel
theorem dX5_lastRound_113 : decode cX5_lastRound 113 = .ok (.iload_n 2, 1) := by decide +kernel
theorem dX5_lastRound_114 : decode cX5_lastRound 114 = .ok (.ireturn, 1) := by decide +kernel
set_option maxRecDepth 20000 in
theorem ggX5_failingRows_X4_start : GoodIn wsX5_failingRows wsX4_start := goodIn_r _ [8, 9, 10, 11, 12, 13, 7, 14, 15, 69, 70] (by decide +kernel) (by decide +kernel)
set_option maxRecDepth 20000 in
theorem gX5_failingRows_X4_start : GoodIn wsX5_failingRows (wsV RX5 176 RX4 yX4_start wsX4_start) := goodIn_app (goodIn_of _ (by decide +kernel)) ggX5_failingRows_X4_start
set_option maxRecDepth 20000 in
theorem ggX5_failingRows_X4_pass : GoodIn wsX5_failingRows wsX4_pass := goodIn_r _ [19, 20, 21, 22, 23, 24, 25, 26, 27, 28, 29, 30, 31, 32, 33, 34, 35, 36, 37, 38, 39, 40, 41, 42, 43, 44, 45, 7, 46, 11, 47, 48, 49, 50, 9, 10, 66, 67, 68, 69, 70] (by decide +kernel) (by decide +kernel)
set_option maxRecDepth 20000 in
theorem gX5_failingRows_X4_pass : GoodIn wsX5_failingRows (wsV RX5 179 RX4 yX4_pass wsX4_pass) := goodIn_app (goodIn_of _ (by decide +kernel)) ggX5_failingRows_X4_pass
set_option maxRecDepth 20000 in
theorem ggX5_failingRows_X4_falling : GoodIn wsX5_failingRows wsX4_falling := goodIn_r _ [54, 11, 9, 69, 70] (by decide +kernel) (by decide +kernel)
set_option maxRecDepth 20000 in
theorem gX5_failingRows_X4_falling : GoodIn wsX5_failingRows (wsV RX5 205 RX4 yX4_falling wsX4_falling) := goodIn_app (goodIn_of _ (by decide +kernel)) ggX5_failingRows_X4_falling
theorem dX5_failingRows_0 : decode cX5_failingRows 0 = .ok (.aload_n 0, 1) := by decide +kernel
theorem dX5_failingRows_1 : decode cX5_failingRows 1 = .ok (.getfield 36, 3) := by decide +kernel
theorem dX5_failingRows_4 : decode cX5_failingRows 4 = .ok (.aload_n 0, 1) := by decide +kernel
theorem dX5_failingRows_5 : decode cX5_failingRows 5 = .ok (.getfield 10, 3) := by decide +kernel
theorem dX5_failingRows_8 : decode cX5_failingRows 8 = .ok (.getfield 160, 3) := by decide +kernel
theorem dX5_failingRows_11 : decode cX5_failingRows 11 = .ok (.iload_n 1, 1) := by decide +kernel
theorem dX5_failingRows_12 : decode cX5_failingRows 12 = .ok (.invokevirtual 176, 3) := by decide +kernel
theorem dX5_failingRows_15 : decode cX5_failingRows 15 = .ok (.aload_n 0, 1) := by decide +kernel
theorem dX5_failingRows_16 : decode cX5_failingRows 16 = .ok (.getfield 36, 3) := by decide +kernel
theorem dX5_failingRows_19 : decode cX5_failingRows 19 = .ok (.aload_n 0, 1) := by decide +kernel
theorem dX5_failingRows_20 : decode cX5_failingRows 20 = .ok (.getfield 10, 3) := by decide +kernel
theorem dX5_failingRows_23 : decode cX5_failingRows 23 = .ok (.iload_n 2, 1) := by decide +kernel
theorem dX5_failingRows_24 : decode cX5_failingRows 24 = .ok (.invokevirtual 179, 3) := by decide +kernel
theorem dX5_failingRows_27 : decode cX5_failingRows 27 = .ok (.aload_n 0, 1) := by decide +kernel
theorem dX5_failingRows_28 : decode cX5_failingRows 28 = .ok (.getfield 36, 3) := by decide +kernel
theorem dX5_failingRows_31 : decode cX5_failingRows 31 = .ok (.iconst 0, 1) := by decide +kernel
theorem dX5_failingRows_32 : decode cX5_failingRows 32 = .ok (.aload_n 0, 1) := by decide +kernel
theorem dX5_failingRows_33 : decode cX5_failingRows 33 = .ok (.getfield 10, 3) := by decide +kernel
theorem dX5_failingRows_36 : decode cX5_failingRows 36 = .ok (.getfield 160, 3) := by decide +kernel
theorem dX5_failingRows_39 : decode cX5_failingRows 39 = .ok (.invokevirtual 205, 3) := by decide +kernel
theorem dX5_failingRows_42 : decode cX5_failingRows 42 = .ok (.lreturn, 1) := by decide +kernel
set_option maxRecDepth 20000 in
theorem ggX5_leastFailing_X4_blocks : GoodIn wsX5_leastFailing wsX4_blocks := goodIn_r _ [6] (by decide +kernel) (by decide +kernel)
set_option maxRecDepth 20000 in
theorem gX5_leastFailing_X4_blocks : GoodIn wsX5_leastFailing (va_wsS RX5 192 yX4_blocks wsX4_blocks) := goodIn_app (goodIn_of _ (by decide +kernel)) ggX5_leastFailing_X4_blocks
set_option maxRecDepth 20000 in
theorem ggX5_leastFailing_X5_failingRows : GoodIn wsX5_leastFailing wsX5_failingRows := goodIn_r _ [11, 12, 1, 2, 13, 14, 15, 5, 16, 17, 18, 19, 20, 21, 22, 23, 24, 25, 26, 27, 28, 29, 30, 31, 32, 33, 34, 35, 36, 37, 38, 39, 40, 41, 42, 43, 44, 45, 46, 47, 48, 49, 50, 51, 52, 53, 54, 55, 56, 57, 58, 59, 60, 61, 62, 73, 74, 75, 76, 77, 78, 79, 80, 81, 82, 83, 84, 85, 86, 87, 88] (by decide +kernel) (by decide +kernel)
set_option maxRecDepth 20000 in
theorem gX5_leastFailing_X5_failingRows : GoodIn wsX5_leastFailing (wsV RX5 195 RX5 yX5_failingRows wsX5_failingRows) := goodIn_app (goodIn_of _ (by decide +kernel)) ggX5_leastFailing_X5_failingRows
set_option maxRecDepth 20000 in
theorem ggX5_leastFailing_X4_leastOf : GoodIn wsX5_leastFailing wsX4_leastOf := goodIn_r _ [65, 66, 67, 68, 69, 70, 71, 72] (by decide +kernel) (by decide +kernel)
set_option maxRecDepth 20000 in
theorem gX5_leastFailing_X4_leastOf : GoodIn wsX5_leastFailing (va_wsS RX5 264 yX4_leastOf wsX4_leastOf) := goodIn_app (goodIn_of _ (by decide +kernel)) ggX5_leastFailing_X4_leastOf
theorem dX5_leastFailing_0 : decode cX5_leastFailing 0 = .ok (.iconst 0, 1) := by decide +kernel
theorem dX5_leastFailing_1 : decode cX5_leastFailing 1 = .ok (.istore_n 2, 1) := by decide +kernel
theorem dX5_leastFailing_2 : decode cX5_leastFailing 2 = .ok (.iload_n 2, 1) := by decide +kernel
theorem dX5_leastFailing_3 : decode cX5_leastFailing 3 = .ok (.aload_n 0, 1) := by decide +kernel
theorem dX5_leastFailing_4 : decode cX5_leastFailing 4 = .ok (.getfield 10, 3) := by decide +kernel
theorem dX5_leastFailing_7 : decode cX5_leastFailing 7 = .ok (.getfield 160, 3) := by decide +kernel
theorem dX5_leastFailing_10 : decode cX5_leastFailing 10 = .ok (.invokestatic 192, 3) := by decide +kernel
theorem dX5_leastFailing_13 : decode cX5_leastFailing 13 = .ok (.if_icmp .ge 28, 3) := by decide +kernel
theorem dX5_leastFailing_16 : decode cX5_leastFailing 16 = .ok (.aload_n 0, 1) := by decide +kernel
theorem dX5_leastFailing_17 : decode cX5_leastFailing 17 = .ok (.iload_n 2, 1) := by decide +kernel
theorem dX5_leastFailing_18 : decode cX5_leastFailing 18 = .ok (.iload_n 1, 1) := by decide +kernel
theorem dX5_leastFailing_19 : decode cX5_leastFailing 19 = .ok (.invokevirtual 195, 3) := by decide +kernel
theorem dX5_leastFailing_22 : decode cX5_leastFailing 22 = .ok (.lstore_n 3, 1) := by decide +kernel
theorem dX5_leastFailing_23 : decode cX5_leastFailing 23 = .ok (.lload_n 3, 1) := by decide +kernel
theorem dX5_leastFailing_24 : decode cX5_leastFailing 24 = .ok (.lconst 0, 1) := by decide +kernel
theorem dX5_leastFailing_25 : decode cX5_leastFailing 25 = .ok (.lcmp, 1) := by decide +kernel
theorem dX5_leastFailing_26 : decode cX5_leastFailing 26 = .ok (.ifCond .eq 9, 3) := by decide +kernel
theorem dX5_leastFailing_29 : decode cX5_leastFailing 29 = .ok (.lload_n 3, 1) := by decide +kernel
theorem dX5_leastFailing_30 : decode cX5_leastFailing 30 = .ok (.iload_n 2, 1) := by decide +kernel
theorem dX5_leastFailing_31 : decode cX5_leastFailing 31 = .ok (.invokestatic 264, 3) := by decide +kernel
theorem dX5_leastFailing_34 : decode cX5_leastFailing 34 = .ok (.ireturn, 1) := by decide +kernel
theorem dX5_leastFailing_35 : decode cX5_leastFailing 35 = .ok (.iinc 2 1, 3) := by decide +kernel
theorem dX5_leastFailing_38 : decode cX5_leastFailing 38 = .ok (.goto (-36), 3) := by decide +kernel
theorem dX5_leastFailing_41 : decode cX5_leastFailing 41 = .ok (.bipush (-6), 2) := by decide +kernel
theorem dX5_leastFailing_43 : decode cX5_leastFailing 43 = .ok (.ireturn, 1) := by decide +kernel
set_option maxRecDepth 20000 in
theorem ggX5_busyComparers_X4_blocks : GoodIn wsX5_busyComparers wsX4_blocks := goodIn_r _ [8] (by decide +kernel) (by decide +kernel)
set_option maxRecDepth 20000 in
theorem gX5_busyComparers_X4_blocks : GoodIn wsX5_busyComparers (va_wsS RX5 192 yX4_blocks wsX4_blocks) := goodIn_app (goodIn_of _ (by decide +kernel)) ggX5_busyComparers_X4_blocks
set_option maxRecDepth 20000 in
theorem ggX5_busyComparers_X4_start : GoodIn wsX5_busyComparers wsX4_start := goodIn_r _ [12, 13, 14, 15, 16, 17, 7, 18, 19, 65, 66] (by decide +kernel) (by decide +kernel)
set_option maxRecDepth 20000 in
theorem gX5_busyComparers_X4_start : GoodIn wsX5_busyComparers (wsV RX5 176 RX4 yX4_start wsX4_start) := goodIn_app (goodIn_of _ (by decide +kernel)) ggX5_busyComparers_X4_start
set_option maxRecDepth 20000 in
theorem ggX5_busyComparers_X3_actingKind : GoodIn wsX5_busyComparers wsX3_actingKind := goodIn_r _ [24, 25, 26, 27, 23, 28, 29, 30, 31, 32, 33, 62, 63, 64] (by decide +kernel) (by decide +kernel)
set_option maxRecDepth 20000 in
theorem gX5_busyComparers_X3_actingKind : GoodIn wsX5_busyComparers (wsV RX5 163 RX3 yX3_actingKind wsX3_actingKind) := goodIn_app (goodIn_of _ (by decide +kernel)) ggX5_busyComparers_X3_actingKind
set_option maxRecDepth 20000 in
theorem ggX5_busyComparers_X3_low : GoodIn wsX5_busyComparers wsX3_low := goodIn_r _ [37, 29, 62, 63, 64] (by decide +kernel) (by decide +kernel)
set_option maxRecDepth 20000 in
theorem gX5_busyComparers_X3_low : GoodIn wsX5_busyComparers (wsV RX5 97 RX3 yX3_low wsX3_low) := goodIn_app (goodIn_of _ (by decide +kernel)) ggX5_busyComparers_X3_low
set_option maxRecDepth 20000 in
theorem ggX5_busyComparers_X3_high : GoodIn wsX5_busyComparers wsX3_high := goodIn_r _ [41, 29, 62, 63, 64] (by decide +kernel) (by decide +kernel)
set_option maxRecDepth 20000 in
theorem gX5_busyComparers_X3_high : GoodIn wsX5_busyComparers (wsV RX5 100 RX3 yX3_high wsX3_high) := goodIn_app (goodIn_of _ (by decide +kernel)) ggX5_busyComparers_X3_high
set_option maxRecDepth 20000 in
theorem ggX5_busyComparers_X4_changing : GoodIn wsX5_busyComparers wsX4_changing := goodIn_r _ [45, 15, 13, 14, 65, 66] (by decide +kernel) (by decide +kernel)
set_option maxRecDepth 20000 in
theorem gX5_busyComparers_X4_changing : GoodIn wsX5_busyComparers (wsV RX5 286 RX4 yX4_changing wsX4_changing) := goodIn_app (goodIn_of _ (by decide +kernel)) ggX5_busyComparers_X4_changing
set_option maxRecDepth 20000 in
theorem ggX5_busyComparers_X4_step : GoodIn wsX5_busyComparers wsX4_step := goodIn_r _ [49, 15, 50, 43, 44, 7, 45, 13, 14, 65, 66] (by decide +kernel) (by decide +kernel)
set_option maxRecDepth 20000 in
theorem gX5_busyComparers_X4_step : GoodIn wsX5_busyComparers (wsV RX5 271 RX4 yX4_step wsX4_step) := goodIn_app (goodIn_of _ (by decide +kernel)) ggX5_busyComparers_X4_step
theorem dX5_busyComparers_0 : decode cX5_busyComparers 0 = .ok (.lconst 0, 1) := by decide +kernel
theorem dX5_busyComparers_1 : decode cX5_busyComparers 1 = .ok (.lstore_n 1, 1) := by decide +kernel
theorem dX5_busyComparers_2 : decode cX5_busyComparers 2 = .ok (.iconst 0, 1) := by decide +kernel
theorem dX5_busyComparers_3 : decode cX5_busyComparers 3 = .ok (.istore_n 3, 1) := by decide +kernel
theorem dX5_busyComparers_4 : decode cX5_busyComparers 4 = .ok (.iload_n 3, 1) := by decide +kernel
theorem dX5_busyComparers_5 : decode cX5_busyComparers 5 = .ok (.aload_n 0, 1) := by decide +kernel
theorem dX5_busyComparers_6 : decode cX5_busyComparers 6 = .ok (.getfield 10, 3) := by decide +kernel
theorem dX5_busyComparers_9 : decode cX5_busyComparers 9 = .ok (.getfield 160, 3) := by decide +kernel
theorem dX5_busyComparers_12 : decode cX5_busyComparers 12 = .ok (.invokestatic 192, 3) := by decide +kernel
theorem dX5_busyComparers_15 : decode cX5_busyComparers 15 = .ok (.if_icmp .ge 122, 3) := by decide +kernel
theorem dX5_busyComparers_18 : decode cX5_busyComparers 18 = .ok (.aload_n 0, 1) := by decide +kernel
theorem dX5_busyComparers_19 : decode cX5_busyComparers 19 = .ok (.getfield 36, 3) := by decide +kernel
theorem dX5_busyComparers_22 : decode cX5_busyComparers 22 = .ok (.aload_n 0, 1) := by decide +kernel
theorem dX5_busyComparers_23 : decode cX5_busyComparers 23 = .ok (.getfield 10, 3) := by decide +kernel
theorem dX5_busyComparers_26 : decode cX5_busyComparers 26 = .ok (.getfield 160, 3) := by decide +kernel
theorem dX5_busyComparers_29 : decode cX5_busyComparers 29 = .ok (.iload_n 3, 1) := by decide +kernel
theorem dX5_busyComparers_30 : decode cX5_busyComparers 30 = .ok (.invokevirtual 176, 3) := by decide +kernel
theorem dX5_busyComparers_33 : decode cX5_busyComparers 33 = .ok (.iconst 0, 1) := by decide +kernel
theorem dX5_busyComparers_34 : decode cX5_busyComparers 34 = .ok (.istore 4, 2) := by decide +kernel
theorem dX5_busyComparers_36 : decode cX5_busyComparers 36 = .ok (.iload 4, 2) := by decide +kernel
theorem dX5_busyComparers_38 : decode cX5_busyComparers 38 = .ok (.aload_n 0, 1) := by decide +kernel
theorem dX5_busyComparers_39 : decode cX5_busyComparers 39 = .ok (.getfield 10, 3) := by decide +kernel
theorem dX5_busyComparers_42 : decode cX5_busyComparers 42 = .ok (.getfield 77, 3) := by decide +kernel
theorem dX5_busyComparers_45 : decode cX5_busyComparers 45 = .ok (.if_icmp .ge 86, 3) := by decide +kernel
theorem dX5_busyComparers_48 : decode cX5_busyComparers 48 = .ok (.aload_n 0, 1) := by decide +kernel
theorem dX5_busyComparers_49 : decode cX5_busyComparers 49 = .ok (.getfield 10, 3) := by decide +kernel
theorem dX5_busyComparers_52 : decode cX5_busyComparers 52 = .ok (.iload 4, 2) := by decide +kernel
theorem dX5_busyComparers_54 : decode cX5_busyComparers 54 = .ok (.invokevirtual 163, 3) := by decide +kernel
theorem dX5_busyComparers_57 : decode cX5_busyComparers 57 = .ok (.istore 5, 2) := by decide +kernel
theorem dX5_busyComparers_59 : decode cX5_busyComparers 59 = .ok (.aload_n 0, 1) := by decide +kernel
theorem dX5_busyComparers_60 : decode cX5_busyComparers 60 = .ok (.getfield 36, 3) := by decide +kernel
theorem dX5_busyComparers_63 : decode cX5_busyComparers 63 = .ok (.iload 5, 2) := by decide +kernel
theorem dX5_busyComparers_65 : decode cX5_busyComparers 65 = .ok (.aload_n 0, 1) := by decide +kernel
theorem dX5_busyComparers_66 : decode cX5_busyComparers 66 = .ok (.getfield 10, 3) := by decide +kernel
theorem dX5_busyComparers_69 : decode cX5_busyComparers 69 = .ok (.iload 4, 2) := by decide +kernel
theorem dX5_busyComparers_71 : decode cX5_busyComparers 71 = .ok (.invokevirtual 97, 3) := by decide +kernel
theorem dX5_busyComparers_74 : decode cX5_busyComparers 74 = .ok (.aload_n 0, 1) := by decide +kernel
theorem dX5_busyComparers_75 : decode cX5_busyComparers 75 = .ok (.getfield 10, 3) := by decide +kernel
theorem dX5_busyComparers_78 : decode cX5_busyComparers 78 = .ok (.iload 4, 2) := by decide +kernel
theorem dX5_busyComparers_80 : decode cX5_busyComparers 80 = .ok (.invokevirtual 100, 3) := by decide +kernel
theorem dX5_busyComparers_83 : decode cX5_busyComparers 83 = .ok (.invokevirtual 286, 3) := by decide +kernel
theorem dX5_busyComparers_86 : decode cX5_busyComparers 86 = .ok (.lconst 0, 1) := by decide +kernel
theorem dX5_busyComparers_87 : decode cX5_busyComparers 87 = .ok (.lcmp, 1) := by decide +kernel
theorem dX5_busyComparers_88 : decode cX5_busyComparers 88 = .ok (.ifCond .eq 10, 3) := by decide +kernel
theorem dX5_busyComparers_91 : decode cX5_busyComparers 91 = .ok (.lload_n 1, 1) := by decide +kernel
theorem dX5_busyComparers_92 : decode cX5_busyComparers 92 = .ok (.lconst 1, 1) := by decide +kernel
theorem dX5_busyComparers_93 : decode cX5_busyComparers 93 = .ok (.iload 4, 2) := by decide +kernel
theorem dX5_busyComparers_95 : decode cX5_busyComparers 95 = .ok (.lshl, 1) := by decide +kernel
theorem dX5_busyComparers_96 : decode cX5_busyComparers 96 = .ok (.lor, 1) := by decide +kernel
theorem dX5_busyComparers_97 : decode cX5_busyComparers 97 = .ok (.lstore_n 1, 1) := by decide +kernel
theorem dX5_busyComparers_98 : decode cX5_busyComparers 98 = .ok (.aload_n 0, 1) := by decide +kernel
theorem dX5_busyComparers_99 : decode cX5_busyComparers 99 = .ok (.getfield 36, 3) := by decide +kernel
theorem dX5_busyComparers_102 : decode cX5_busyComparers 102 = .ok (.iload 5, 2) := by decide +kernel
theorem dX5_busyComparers_104 : decode cX5_busyComparers 104 = .ok (.aload_n 0, 1) := by decide +kernel
theorem dX5_busyComparers_105 : decode cX5_busyComparers 105 = .ok (.getfield 10, 3) := by decide +kernel
theorem dX5_busyComparers_108 : decode cX5_busyComparers 108 = .ok (.iload 4, 2) := by decide +kernel
theorem dX5_busyComparers_110 : decode cX5_busyComparers 110 = .ok (.invokevirtual 97, 3) := by decide +kernel
theorem dX5_busyComparers_113 : decode cX5_busyComparers 113 = .ok (.aload_n 0, 1) := by decide +kernel
theorem dX5_busyComparers_114 : decode cX5_busyComparers 114 = .ok (.getfield 10, 3) := by decide +kernel
theorem dX5_busyComparers_117 : decode cX5_busyComparers 117 = .ok (.iload 4, 2) := by decide +kernel
theorem dX5_busyComparers_119 : decode cX5_busyComparers 119 = .ok (.invokevirtual 100, 3) := by decide +kernel
theorem dX5_busyComparers_122 : decode cX5_busyComparers 122 = .ok (.invokevirtual 271, 3) := by decide +kernel
theorem dX5_busyComparers_125 : decode cX5_busyComparers 125 = .ok (.iinc 4 1, 3) := by decide +kernel
theorem dX5_busyComparers_128 : decode cX5_busyComparers 128 = .ok (.goto (-92), 3) := by decide +kernel
theorem dX5_busyComparers_131 : decode cX5_busyComparers 131 = .ok (.iinc 3 1, 3) := by decide +kernel
theorem dX5_busyComparers_134 : decode cX5_busyComparers 134 = .ok (.goto (-130), 3) := by decide +kernel
theorem dX5_busyComparers_137 : decode cX5_busyComparers 137 = .ok (.lload_n 1, 1) := by decide +kernel
theorem dX5_busyComparers_138 : decode cX5_busyComparers 138 = .ok (.lreturn, 1) := by decide +kernel
set_option maxRecDepth 20000 in
theorem ggX5_findCompletion_X4_start : GoodIn wsX5_findCompletion wsX4_start := goodIn_r _ [9, 10, 11, 12, 13, 14, 8, 15, 16, 93, 94] (by decide +kernel) (by decide +kernel)
set_option maxRecDepth 20000 in
theorem gX5_findCompletion_X4_start : GoodIn wsX5_findCompletion (wsV RX5 176 RX4 yX4_start wsX4_start) := goodIn_app (goodIn_of _ (by decide +kernel)) ggX5_findCompletion_X4_start
set_option maxRecDepth 20000 in
theorem ggX5_findCompletion_X4_pass : GoodIn wsX5_findCompletion wsX4_pass := goodIn_r _ [20, 21, 22, 23, 24, 25, 26, 27, 28, 29, 30, 31, 32, 33, 34, 35, 36, 37, 38, 39, 40, 41, 42, 43, 44, 45, 46, 8, 47, 12, 48, 49, 50, 51, 10, 11, 90, 91, 92, 93, 94] (by decide +kernel) (by decide +kernel)
set_option maxRecDepth 20000 in
theorem gX5_findCompletion_X4_pass : GoodIn wsX5_findCompletion (wsV RX5 179 RX4 yX4_pass wsX4_pass) := goodIn_app (goodIn_of _ (by decide +kernel)) ggX5_findCompletion_X4_pass
set_option maxRecDepth 20000 in
theorem ggX5_findCompletion_X4_packed : GoodIn wsX5_findCompletion wsX4_packed := goodIn_r _ [55, 12, 93, 94] (by decide +kernel) (by decide +kernel)
set_option maxRecDepth 20000 in
theorem gX5_findCompletion_X4_packed : GoodIn wsX5_findCompletion (wsV RX5 290 RX4 yX4_packed wsX4_packed) := goodIn_app (goodIn_of _ (by decide +kernel)) ggX5_findCompletion_X4_packed
set_option maxRecDepth 20000 in
theorem ggX5_findCompletion_X0_find : GoodIn wsX5_findCompletion wsX0_find := goodIn_r _ [60, 61, 62, 63, 64, 65, 66, 59, 67, 68, 69, 70, 71, 72, 73, 74, 75, 76, 77, 78, 95, 96, 97, 98] (by decide +kernel) (by decide +kernel)
set_option maxRecDepth 20000 in
theorem gX5_findCompletion_X0_find : GoodIn wsX5_findCompletion (wsV RX5 294 RX0 yX0_find wsX0_find) := goodIn_app (goodIn_of _ (by decide +kernel)) ggX5_findCompletion_X0_find
theorem dX5_findCompletion_0 : decode cX5_findCompletion 0 = .ok (.aload_n 0, 1) := by decide +kernel
theorem dX5_findCompletion_1 : decode cX5_findCompletion 1 = .ok (.getfield 36, 3) := by decide +kernel
theorem dX5_findCompletion_4 : decode cX5_findCompletion 4 = .ok (.aload_n 0, 1) := by decide +kernel
theorem dX5_findCompletion_5 : decode cX5_findCompletion 5 = .ok (.getfield 10, 3) := by decide +kernel
theorem dX5_findCompletion_8 : decode cX5_findCompletion 8 = .ok (.getfield 160, 3) := by decide +kernel
theorem dX5_findCompletion_11 : decode cX5_findCompletion 11 = .ok (.iconst 0, 1) := by decide +kernel
theorem dX5_findCompletion_12 : decode cX5_findCompletion 12 = .ok (.invokevirtual 176, 3) := by decide +kernel
theorem dX5_findCompletion_15 : decode cX5_findCompletion 15 = .ok (.aload_n 0, 1) := by decide +kernel
theorem dX5_findCompletion_16 : decode cX5_findCompletion 16 = .ok (.getfield 36, 3) := by decide +kernel
theorem dX5_findCompletion_19 : decode cX5_findCompletion 19 = .ok (.aload_n 0, 1) := by decide +kernel
theorem dX5_findCompletion_20 : decode cX5_findCompletion 20 = .ok (.getfield 10, 3) := by decide +kernel
theorem dX5_findCompletion_23 : decode cX5_findCompletion 23 = .ok (.iconst (-1), 1) := by decide +kernel
theorem dX5_findCompletion_24 : decode cX5_findCompletion 24 = .ok (.invokevirtual 179, 3) := by decide +kernel
theorem dX5_findCompletion_27 : decode cX5_findCompletion 27 = .ok (.aload_n 0, 1) := by decide +kernel
theorem dX5_findCompletion_28 : decode cX5_findCompletion 28 = .ok (.getfield 46, 3) := by decide +kernel
theorem dX5_findCompletion_31 : decode cX5_findCompletion 31 = .ok (.aload_n 0, 1) := by decide +kernel
theorem dX5_findCompletion_32 : decode cX5_findCompletion 32 = .ok (.getfield 10, 3) := by decide +kernel
theorem dX5_findCompletion_35 : decode cX5_findCompletion 35 = .ok (.getfield 160, 3) := by decide +kernel
theorem dX5_findCompletion_38 : decode cX5_findCompletion 38 = .ok (.aload_n 0, 1) := by decide +kernel
theorem dX5_findCompletion_39 : decode cX5_findCompletion 39 = .ok (.getfield 36, 3) := by decide +kernel
theorem dX5_findCompletion_42 : decode cX5_findCompletion 42 = .ok (.aload_n 0, 1) := by decide +kernel
theorem dX5_findCompletion_43 : decode cX5_findCompletion 43 = .ok (.getfield 10, 3) := by decide +kernel
theorem dX5_findCompletion_46 : decode cX5_findCompletion 46 = .ok (.getfield 160, 3) := by decide +kernel
theorem dX5_findCompletion_49 : decode cX5_findCompletion 49 = .ok (.invokevirtual 290, 3) := by decide +kernel
theorem dX5_findCompletion_52 : decode cX5_findCompletion 52 = .ok (.invokevirtual 294, 3) := by decide +kernel
theorem dX5_findCompletion_55 : decode cX5_findCompletion 55 = .ok (.return_, 1) := by decide +kernel
theorem dX6_init_0 : decode cX6_init 0 = .ok (.aload_n 0, 1) := by decide +kernel
theorem dX6_init_1 : decode cX6_init 1 = .ok (.invokespecial 1, 3) := by decide +kernel
theorem dX6_init_4 : decode cX6_init 4 = .ok (.aload_n 0, 1) := by decide +kernel
theorem dX6_init_5 : decode cX6_init 5 = .ok (.iconst 2, 1) := by decide +kernel
theorem dX6_init_6 : decode cX6_init 6 = .ok (.putfield 7, 3) := by decide +kernel
theorem dX6_init_9 : decode cX6_init 9 = .ok (.aload_n 0, 1) := by decide +kernel
theorem dX6_init_10 : decode cX6_init 10 = .ok (.bipush 40, 2) := by decide +kernel
theorem dX6_init_12 : decode cX6_init 12 = .ok (.newarray .int, 2) := by decide +kernel
theorem dX6_init_14 : decode cX6_init 14 = .ok (.putfield 13, 3) := by decide +kernel
theorem dX6_init_17 : decode cX6_init 17 = .ok (.aload_n 0, 1) := by decide +kernel
theorem dX6_init_18 : decode cX6_init 18 = .ok (.bipush 40, 2) := by decide +kernel
theorem dX6_init_20 : decode cX6_init 20 = .ok (.newarray .int, 2) := by decide +kernel
theorem dX6_init_22 : decode cX6_init 22 = .ok (.putfield 17, 3) := by decide +kernel
theorem dX6_init_25 : decode cX6_init 25 = .ok (.aload_n 0, 1) := by decide +kernel
theorem dX6_init_26 : decode cX6_init 26 = .ok (.bipush 40, 2) := by decide +kernel
theorem dX6_init_28 : decode cX6_init 28 = .ok (.newarray .int, 2) := by decide +kernel
theorem dX6_init_30 : decode cX6_init 30 = .ok (.putfield 20, 3) := by decide +kernel
theorem dX6_init_33 : decode cX6_init 33 = .ok (.aload_n 0, 1) := by decide +kernel
theorem dX6_init_34 : decode cX6_init 34 = .ok (.bipush 40, 2) := by decide +kernel
theorem dX6_init_36 : decode cX6_init 36 = .ok (.newarray .boolean, 2) := by decide +kernel
theorem dX6_init_38 : decode cX6_init 38 = .ok (.putfield 23, 3) := by decide +kernel
theorem dX6_init_41 : decode cX6_init 41 = .ok (.aload_n 0, 1) := by decide +kernel
theorem dX6_init_42 : decode cX6_init 42 = .ok (.bipush 30, 2) := by decide +kernel
theorem dX6_init_44 : decode cX6_init 44 = .ok (.newarray .int, 2) := by decide +kernel
theorem dX6_init_46 : decode cX6_init 46 = .ok (.putfield 27, 3) := by decide +kernel
theorem dX6_init_49 : decode cX6_init 49 = .ok (.aload_n 0, 1) := by decide +kernel
theorem dX6_init_50 : decode cX6_init 50 = .ok (.bipush 30, 2) := by decide +kernel
theorem dX6_init_52 : decode cX6_init 52 = .ok (.newarray .int, 2) := by decide +kernel
theorem dX6_init_54 : decode cX6_init 54 = .ok (.putfield 30, 3) := by decide +kernel
theorem dX6_init_57 : decode cX6_init 57 = .ok (.aload_n 0, 1) := by decide +kernel
theorem dX6_init_58 : decode cX6_init 58 = .ok (.sipush 1200, 3) := by decide +kernel
theorem dX6_init_61 : decode cX6_init 61 = .ok (.newarray .int, 2) := by decide +kernel
theorem dX6_init_63 : decode cX6_init 63 = .ok (.putfield 33, 3) := by decide +kernel
theorem dX6_init_66 : decode cX6_init 66 = .ok (.aload_n 0, 1) := by decide +kernel
theorem dX6_init_67 : decode cX6_init 67 = .ok (.sipush 1200, 3) := by decide +kernel
theorem dX6_init_70 : decode cX6_init 70 = .ok (.newarray .int, 2) := by decide +kernel
theorem dX6_init_72 : decode cX6_init 72 = .ok (.putfield 36, 3) := by decide +kernel
theorem dX6_init_75 : decode cX6_init 75 = .ok (.aload_n 0, 1) := by decide +kernel
theorem dX6_init_76 : decode cX6_init 76 = .ok (.sipush 1200, 3) := by decide +kernel
theorem dX6_init_79 : decode cX6_init 79 = .ok (.newarray .int, 2) := by decide +kernel
theorem dX6_init_81 : decode cX6_init 81 = .ok (.putfield 39, 3) := by decide +kernel
theorem dX6_init_84 : decode cX6_init 84 = .ok (.aload_n 0, 1) := by decide +kernel
theorem dX6_init_85 : decode cX6_init 85 = .ok (.sipush 1200, 3) := by decide +kernel
theorem dX6_init_88 : decode cX6_init 88 = .ok (.newarray .boolean, 2) := by decide +kernel
theorem dX6_init_90 : decode cX6_init 90 = .ok (.putfield 42, 3) := by decide +kernel
theorem dX6_init_93 : decode cX6_init 93 = .ok (.aload_n 0, 1) := by decide +kernel
theorem dX6_init_94 : decode cX6_init 94 = .ok (.bipush 6, 2) := by decide +kernel
theorem dX6_init_96 : decode cX6_init 96 = .ok (.newarray .int, 2) := by decide +kernel
theorem dX6_init_98 : decode cX6_init 98 = .ok (.putfield 45, 3) := by decide +kernel
theorem dX6_init_101 : decode cX6_init 101 = .ok (.aload_n 0, 1) := by decide +kernel
theorem dX6_init_102 : decode cX6_init 102 = .ok (.bipush 6, 2) := by decide +kernel
theorem dX6_init_104 : decode cX6_init 104 = .ok (.newarray .int, 2) := by decide +kernel
theorem dX6_init_106 : decode cX6_init 106 = .ok (.putfield 48, 3) := by decide +kernel
theorem dX6_init_109 : decode cX6_init 109 = .ok (.aload_n 0, 1) := by decide +kernel
theorem dX6_init_110 : decode cX6_init 110 = .ok (.bipush 72, 2) := by decide +kernel
theorem dX6_init_112 : decode cX6_init 112 = .ok (.newarray .long, 2) := by decide +kernel
theorem dX6_init_114 : decode cX6_init 114 = .ok (.putfield 51, 3) := by decide +kernel
theorem dX6_init_117 : decode cX6_init 117 = .ok (.aload_n 0, 1) := by decide +kernel
theorem dX6_init_118 : decode cX6_init 118 = .ok (.bipush 80, 2) := by decide +kernel
theorem dX6_init_120 : decode cX6_init 120 = .ok (.newarray .int, 2) := by decide +kernel
theorem dX6_init_122 : decode cX6_init 122 = .ok (.putfield 55, 3) := by decide +kernel
theorem dX6_init_125 : decode cX6_init 125 = .ok (.aload_n 0, 1) := by decide +kernel
theorem dX6_init_126 : decode cX6_init 126 = .ok (.bipush 40, 2) := by decide +kernel
theorem dX6_init_128 : decode cX6_init 128 = .ok (.newarray .int, 2) := by decide +kernel
theorem dX6_init_130 : decode cX6_init 130 = .ok (.putfield 58, 3) := by decide +kernel
theorem dX6_init_133 : decode cX6_init 133 = .ok (.aload_n 0, 1) := by decide +kernel
theorem dX6_init_134 : decode cX6_init 134 = .ok (.bipush 12, 2) := by decide +kernel
theorem dX6_init_136 : decode cX6_init 136 = .ok (.newarray .long, 2) := by decide +kernel
theorem dX6_init_138 : decode cX6_init 138 = .ok (.putfield 61, 3) := by decide +kernel
theorem dX6_init_141 : decode cX6_init 141 = .ok (.aload_n 0, 1) := by decide +kernel
theorem dX6_init_142 : decode cX6_init 142 = .ok (.bipush 40, 2) := by decide +kernel
theorem dX6_init_144 : decode cX6_init 144 = .ok (.newarray .boolean, 2) := by decide +kernel
theorem dX6_init_146 : decode cX6_init 146 = .ok (.putfield 64, 3) := by decide +kernel
theorem dX6_init_149 : decode cX6_init 149 = .ok (.aload_n 0, 1) := by decide +kernel
theorem dX6_init_150 : decode cX6_init 150 = .ok (.bipush 8, 2) := by decide +kernel
theorem dX6_init_152 : decode cX6_init 152 = .ok (.newarray .int, 2) := by decide +kernel
theorem dX6_init_154 : decode cX6_init 154 = .ok (.putfield 67, 3) := by decide +kernel
theorem dX6_init_157 : decode cX6_init 157 = .ok (.aload_n 0, 1) := by decide +kernel
theorem dX6_init_158 : decode cX6_init 158 = .ok (.bipush 10, 2) := by decide +kernel
theorem dX6_init_160 : decode cX6_init 160 = .ok (.newarray .int, 2) := by decide +kernel
theorem dX6_init_162 : decode cX6_init 162 = .ok (.putfield 70, 3) := by decide +kernel
theorem dX6_init_165 : decode cX6_init 165 = .ok (.aload_n 0, 1) := by decide +kernel
theorem dX6_init_166 : decode cX6_init 166 = .ok (.sipush 256, 3) := by decide +kernel
theorem dX6_init_169 : decode cX6_init 169 = .ok (.newarray .int, 2) := by decide +kernel
theorem dX6_init_171 : decode cX6_init 171 = .ok (.putfield 73, 3) := by decide +kernel
theorem dX6_init_174 : decode cX6_init 174 = .ok (.return_, 1) := by decide +kernel
theorem dX6_in_0 : decode cX6_in 0 = .ok (.iload_n 0, 1) := by decide +kernel
theorem dX6_in_1 : decode cX6_in 1 = .ok (.iload_n 1, 1) := by decide +kernel
theorem dX6_in_2 : decode cX6_in 2 = .ok (.if_icmp .lt 12, 3) := by decide +kernel
theorem dX6_in_5 : decode cX6_in 5 = .ok (.iload_n 0, 1) := by decide +kernel
theorem dX6_in_6 : decode cX6_in 6 = .ok (.iload_n 2, 1) := by decide +kernel
theorem dX6_in_7 : decode cX6_in 7 = .ok (.if_icmp .gt 7, 3) := by decide +kernel
theorem dX6_in_10 : decode cX6_in 10 = .ok (.iconst 1, 1) := by decide +kernel
theorem dX6_in_11 : decode cX6_in 11 = .ok (.goto 4, 3) := by decide +kernel
theorem dX6_in_14 : decode cX6_in 14 = .ok (.iconst 0, 1) := by decide +kernel
theorem dX6_in_15 : decode cX6_in 15 = .ok (.ireturn, 1) := by decide +kernel
theorem dX6_found_0 : decode cX6_found 0 = .ok (.aload_n 0, 1) := by decide +kernel
theorem dX6_found_1 : decode cX6_found 1 = .ok (.dup, 1) := by decide +kernel
theorem dX6_found_2 : decode cX6_found 2 = .ok (.getfield 76, 3) := by decide +kernel
theorem dX6_found_5 : decode cX6_found 5 = .ok (.iconst 1, 1) := by decide +kernel
theorem dX6_found_6 : decode cX6_found 6 = .ok (.iadd, 1) := by decide +kernel
theorem dX6_found_7 : decode cX6_found 7 = .ok (.putfield 76, 3) := by decide +kernel
theorem dX6_found_10 : decode cX6_found 10 = .ok (.iload_n 1, 1) := by decide +kernel
theorem dX6_found_11 : decode cX6_found 11 = .ok (.ireturn, 1) := by decide +kernel
set_option maxRecDepth 20000 in
theorem ggX6_isComparer_X6_in : GoodIn wsX6_isComparer wsX6_in := goodIn_r _ [5] (by decide +kernel) (by decide +kernel)
set_option maxRecDepth 20000 in
theorem gX6_isComparer_X6_in : GoodIn wsX6_isComparer (va_wsS RX6 82 yX6_in wsX6_in) := goodIn_app (goodIn_of _ (by decide +kernel)) ggX6_isComparer_X6_in
theorem dX6_isComparer_0 : decode cX6_isComparer 0 = .ok (.iload_n 1, 1) := by decide +kernel
theorem dX6_isComparer_1 : decode cX6_isComparer 1 = .ok (.iconst 0, 1) := by decide +kernel
theorem dX6_isComparer_2 : decode cX6_isComparer 2 = .ok (.aload_n 0, 1) := by decide +kernel
theorem dX6_isComparer_3 : decode cX6_isComparer 3 = .ok (.getfield 79, 3) := by decide +kernel
theorem dX6_isComparer_6 : decode cX6_isComparer 6 = .ok (.iconst 1, 1) := by decide +kernel
theorem dX6_isComparer_7 : decode cX6_isComparer 7 = .ok (.isub, 1) := by decide +kernel
theorem dX6_isComparer_8 : decode cX6_isComparer 8 = .ok (.invokestatic 82, 3) := by decide +kernel
theorem dX6_isComparer_11 : decode cX6_isComparer 11 = .ok (.ireturn, 1) := by decide +kernel
set_option maxRecDepth 20000 in
theorem ggX6_isLane_X6_in : GoodIn wsX6_isLane wsX6_in := goodIn_r _ [5] (by decide +kernel) (by decide +kernel)
set_option maxRecDepth 20000 in
theorem gX6_isLane_X6_in : GoodIn wsX6_isLane (va_wsS RX6 82 yX6_in wsX6_in) := goodIn_app (goodIn_of _ (by decide +kernel)) ggX6_isLane_X6_in
theorem dX6_isLane_0 : decode cX6_isLane 0 = .ok (.iload_n 1, 1) := by decide +kernel
theorem dX6_isLane_1 : decode cX6_isLane 1 = .ok (.iconst 0, 1) := by decide +kernel
theorem dX6_isLane_2 : decode cX6_isLane 2 = .ok (.aload_n 0, 1) := by decide +kernel
theorem dX6_isLane_3 : decode cX6_isLane 3 = .ok (.getfield 7, 3) := by decide +kernel
theorem dX6_isLane_6 : decode cX6_isLane 6 = .ok (.iconst 1, 1) := by decide +kernel
theorem dX6_isLane_7 : decode cX6_isLane 7 = .ok (.isub, 1) := by decide +kernel
theorem dX6_isLane_8 : decode cX6_isLane 8 = .ok (.invokestatic 82, 3) := by decide +kernel
theorem dX6_isLane_11 : decode cX6_isLane 11 = .ok (.ireturn, 1) := by decide +kernel
theorem dX6_store_0 : decode cX6_store 0 = .ok (.aload_n 0, 1) := by decide +kernel
theorem dX6_store_1 : decode cX6_store 1 = .ok (.getfield 27, 3) := by decide +kernel
theorem dX6_store_4 : decode cX6_store 4 = .ok (.iload_n 1, 1) := by decide +kernel
theorem dX6_store_5 : decode cX6_store 5 = .ok (.aload_n 0, 1) := by decide +kernel
end
section
theorem dX6_store_6 : decode cX6_store 6 = .ok (.getfield 7, 3) := by decide +kernel
theorem dX6_store_9 : decode cX6_store 9 = .ok (.iastore, 1) := by decide +kernel
theorem dX6_store_10 : decode cX6_store 10 = .ok (.aload_n 0, 1) := by decide +kernel
theorem dX6_store_11 : decode cX6_store 11 = .ok (.getfield 30, 3) := by decide +kernel
theorem dX6_store_14 : decode cX6_store 14 = .ok (.iload_n 1, 1) := by decide +kernel
theorem dX6_store_15 : decode cX6_store 15 = .ok (.aload_n 0, 1) := by decide +kernel
theorem dX6_store_16 : decode cX6_store 16 = .ok (.getfield 79, 3) := by decide +kernel
theorem dX6_store_19 : decode cX6_store 19 = .ok (.iastore, 1) := by decide +kernel
theorem dX6_store_20 : decode cX6_store 20 = .ok (.iconst 0, 1) := by decide +kernel
theorem dX6_store_21 : decode cX6_store 21 = .ok (.istore_n 2, 1) := by decide +kernel
theorem dX6_store_22 : decode cX6_store 22 = .ok (.iload_n 2, 1) := by decide +kernel
theorem dX6_store_23 : decode cX6_store 23 = .ok (.bipush 40, 2) := by decide +kernel
theorem dX6_store_25 : decode cX6_store 25 = .ok (.if_icmp .ge 77, 3) := by decide +kernel
theorem dX6_store_28 : decode cX6_store 28 = .ok (.aload_n 0, 1) := by decide +kernel
theorem dX6_store_29 : decode cX6_store 29 = .ok (.getfield 33, 3) := by decide +kernel
theorem dX6_store_32 : decode cX6_store 32 = .ok (.bipush 40, 2) := by decide +kernel
theorem dX6_store_34 : decode cX6_store 34 = .ok (.iload_n 1, 1) := by decide +kernel
theorem dX6_store_35 : decode cX6_store 35 = .ok (.imul, 1) := by decide +kernel
theorem dX6_store_36 : decode cX6_store 36 = .ok (.iload_n 2, 1) := by decide +kernel
theorem dX6_store_37 : decode cX6_store 37 = .ok (.iadd, 1) := by decide +kernel
theorem dX6_store_38 : decode cX6_store 38 = .ok (.aload_n 0, 1) := by decide +kernel
theorem dX6_store_39 : decode cX6_store 39 = .ok (.getfield 13, 3) := by decide +kernel
theorem dX6_store_42 : decode cX6_store 42 = .ok (.iload_n 2, 1) := by decide +kernel
theorem dX6_store_43 : decode cX6_store 43 = .ok (.iaload, 1) := by decide +kernel
theorem dX6_store_44 : decode cX6_store 44 = .ok (.iastore, 1) := by decide +kernel
theorem dX6_store_45 : decode cX6_store 45 = .ok (.aload_n 0, 1) := by decide +kernel
theorem dX6_store_46 : decode cX6_store 46 = .ok (.getfield 36, 3) := by decide +kernel
theorem dX6_store_49 : decode cX6_store 49 = .ok (.bipush 40, 2) := by decide +kernel
theorem dX6_store_51 : decode cX6_store 51 = .ok (.iload_n 1, 1) := by decide +kernel
theorem dX6_store_52 : decode cX6_store 52 = .ok (.imul, 1) := by decide +kernel
theorem dX6_store_53 : decode cX6_store 53 = .ok (.iload_n 2, 1) := by decide +kernel
theorem dX6_store_54 : decode cX6_store 54 = .ok (.iadd, 1) := by decide +kernel
theorem dX6_store_55 : decode cX6_store 55 = .ok (.aload_n 0, 1) := by decide +kernel
theorem dX6_store_56 : decode cX6_store 56 = .ok (.getfield 17, 3) := by decide +kernel
theorem dX6_store_59 : decode cX6_store 59 = .ok (.iload_n 2, 1) := by decide +kernel
theorem dX6_store_60 : decode cX6_store 60 = .ok (.iaload, 1) := by decide +kernel
theorem dX6_store_61 : decode cX6_store 61 = .ok (.iastore, 1) := by decide +kernel
theorem dX6_store_62 : decode cX6_store 62 = .ok (.aload_n 0, 1) := by decide +kernel
theorem dX6_store_63 : decode cX6_store 63 = .ok (.getfield 39, 3) := by decide +kernel
theorem dX6_store_66 : decode cX6_store 66 = .ok (.bipush 40, 2) := by decide +kernel
theorem dX6_store_68 : decode cX6_store 68 = .ok (.iload_n 1, 1) := by decide +kernel
theorem dX6_store_69 : decode cX6_store 69 = .ok (.imul, 1) := by decide +kernel
theorem dX6_store_70 : decode cX6_store 70 = .ok (.iload_n 2, 1) := by decide +kernel
theorem dX6_store_71 : decode cX6_store 71 = .ok (.iadd, 1) := by decide +kernel
theorem dX6_store_72 : decode cX6_store 72 = .ok (.aload_n 0, 1) := by decide +kernel
theorem dX6_store_73 : decode cX6_store 73 = .ok (.getfield 20, 3) := by decide +kernel
theorem dX6_store_76 : decode cX6_store 76 = .ok (.iload_n 2, 1) := by decide +kernel
theorem dX6_store_77 : decode cX6_store 77 = .ok (.iaload, 1) := by decide +kernel
theorem dX6_store_78 : decode cX6_store 78 = .ok (.iastore, 1) := by decide +kernel
theorem dX6_store_79 : decode cX6_store 79 = .ok (.aload_n 0, 1) := by decide +kernel
theorem dX6_store_80 : decode cX6_store 80 = .ok (.getfield 42, 3) := by decide +kernel
theorem dX6_store_83 : decode cX6_store 83 = .ok (.bipush 40, 2) := by decide +kernel
theorem dX6_store_85 : decode cX6_store 85 = .ok (.iload_n 1, 1) := by decide +kernel
theorem dX6_store_86 : decode cX6_store 86 = .ok (.imul, 1) := by decide +kernel
theorem dX6_store_87 : decode cX6_store 87 = .ok (.iload_n 2, 1) := by decide +kernel
theorem dX6_store_88 : decode cX6_store 88 = .ok (.iadd, 1) := by decide +kernel
theorem dX6_store_89 : decode cX6_store 89 = .ok (.aload_n 0, 1) := by decide +kernel
theorem dX6_store_90 : decode cX6_store 90 = .ok (.getfield 23, 3) := by decide +kernel
theorem dX6_store_93 : decode cX6_store 93 = .ok (.iload_n 2, 1) := by decide +kernel
theorem dX6_store_94 : decode cX6_store 94 = .ok (.baload, 1) := by decide +kernel
theorem dX6_store_95 : decode cX6_store 95 = .ok (.bastore, 1) := by decide +kernel
theorem dX6_store_96 : decode cX6_store 96 = .ok (.iinc 2 1, 3) := by decide +kernel
theorem dX6_store_99 : decode cX6_store 99 = .ok (.goto (-77), 3) := by decide +kernel
theorem dX6_store_102 : decode cX6_store 102 = .ok (.return_, 1) := by decide +kernel
theorem dX6_restore_0 : decode cX6_restore 0 = .ok (.aload_n 0, 1) := by decide +kernel
theorem dX6_restore_1 : decode cX6_restore 1 = .ok (.aload_n 0, 1) := by decide +kernel
theorem dX6_restore_2 : decode cX6_restore 2 = .ok (.getfield 27, 3) := by decide +kernel
theorem dX6_restore_5 : decode cX6_restore 5 = .ok (.iload_n 1, 1) := by decide +kernel
theorem dX6_restore_6 : decode cX6_restore 6 = .ok (.iaload, 1) := by decide +kernel
theorem dX6_restore_7 : decode cX6_restore 7 = .ok (.putfield 7, 3) := by decide +kernel
theorem dX6_restore_10 : decode cX6_restore 10 = .ok (.aload_n 0, 1) := by decide +kernel
theorem dX6_restore_11 : decode cX6_restore 11 = .ok (.aload_n 0, 1) := by decide +kernel
theorem dX6_restore_12 : decode cX6_restore 12 = .ok (.getfield 30, 3) := by decide +kernel
theorem dX6_restore_15 : decode cX6_restore 15 = .ok (.iload_n 1, 1) := by decide +kernel
theorem dX6_restore_16 : decode cX6_restore 16 = .ok (.iaload, 1) := by decide +kernel
theorem dX6_restore_17 : decode cX6_restore 17 = .ok (.putfield 79, 3) := by decide +kernel
theorem dX6_restore_20 : decode cX6_restore 20 = .ok (.iconst 0, 1) := by decide +kernel
theorem dX6_restore_21 : decode cX6_restore 21 = .ok (.istore_n 2, 1) := by decide +kernel
theorem dX6_restore_22 : decode cX6_restore 22 = .ok (.iload_n 2, 1) := by decide +kernel
theorem dX6_restore_23 : decode cX6_restore 23 = .ok (.bipush 40, 2) := by decide +kernel
theorem dX6_restore_25 : decode cX6_restore 25 = .ok (.if_icmp .ge 77, 3) := by decide +kernel
theorem dX6_restore_28 : decode cX6_restore 28 = .ok (.aload_n 0, 1) := by decide +kernel
theorem dX6_restore_29 : decode cX6_restore 29 = .ok (.getfield 13, 3) := by decide +kernel
theorem dX6_restore_32 : decode cX6_restore 32 = .ok (.iload_n 2, 1) := by decide +kernel
theorem dX6_restore_33 : decode cX6_restore 33 = .ok (.aload_n 0, 1) := by decide +kernel
theorem dX6_restore_34 : decode cX6_restore 34 = .ok (.getfield 33, 3) := by decide +kernel
theorem dX6_restore_37 : decode cX6_restore 37 = .ok (.bipush 40, 2) := by decide +kernel
theorem dX6_restore_39 : decode cX6_restore 39 = .ok (.iload_n 1, 1) := by decide +kernel
theorem dX6_restore_40 : decode cX6_restore 40 = .ok (.imul, 1) := by decide +kernel
theorem dX6_restore_41 : decode cX6_restore 41 = .ok (.iload_n 2, 1) := by decide +kernel
theorem dX6_restore_42 : decode cX6_restore 42 = .ok (.iadd, 1) := by decide +kernel
theorem dX6_restore_43 : decode cX6_restore 43 = .ok (.iaload, 1) := by decide +kernel
theorem dX6_restore_44 : decode cX6_restore 44 = .ok (.iastore, 1) := by decide +kernel
theorem dX6_restore_45 : decode cX6_restore 45 = .ok (.aload_n 0, 1) := by decide +kernel
theorem dX6_restore_46 : decode cX6_restore 46 = .ok (.getfield 17, 3) := by decide +kernel
theorem dX6_restore_49 : decode cX6_restore 49 = .ok (.iload_n 2, 1) := by decide +kernel
theorem dX6_restore_50 : decode cX6_restore 50 = .ok (.aload_n 0, 1) := by decide +kernel
theorem dX6_restore_51 : decode cX6_restore 51 = .ok (.getfield 36, 3) := by decide +kernel
theorem dX6_restore_54 : decode cX6_restore 54 = .ok (.bipush 40, 2) := by decide +kernel
theorem dX6_restore_56 : decode cX6_restore 56 = .ok (.iload_n 1, 1) := by decide +kernel
theorem dX6_restore_57 : decode cX6_restore 57 = .ok (.imul, 1) := by decide +kernel
theorem dX6_restore_58 : decode cX6_restore 58 = .ok (.iload_n 2, 1) := by decide +kernel
theorem dX6_restore_59 : decode cX6_restore 59 = .ok (.iadd, 1) := by decide +kernel
theorem dX6_restore_60 : decode cX6_restore 60 = .ok (.iaload, 1) := by decide +kernel
theorem dX6_restore_61 : decode cX6_restore 61 = .ok (.iastore, 1) := by decide +kernel
theorem dX6_restore_62 : decode cX6_restore 62 = .ok (.aload_n 0, 1) := by decide +kernel
theorem dX6_restore_63 : decode cX6_restore 63 = .ok (.getfield 20, 3) := by decide +kernel
theorem dX6_restore_66 : decode cX6_restore 66 = .ok (.iload_n 2, 1) := by decide +kernel
theorem dX6_restore_67 : decode cX6_restore 67 = .ok (.aload_n 0, 1) := by decide +kernel
theorem dX6_restore_68 : decode cX6_restore 68 = .ok (.getfield 39, 3) := by decide +kernel
theorem dX6_restore_71 : decode cX6_restore 71 = .ok (.bipush 40, 2) := by decide +kernel
theorem dX6_restore_73 : decode cX6_restore 73 = .ok (.iload_n 1, 1) := by decide +kernel
theorem dX6_restore_74 : decode cX6_restore 74 = .ok (.imul, 1) := by decide +kernel
theorem dX6_restore_75 : decode cX6_restore 75 = .ok (.iload_n 2, 1) := by decide +kernel
theorem dX6_restore_76 : decode cX6_restore 76 = .ok (.iadd, 1) := by decide +kernel
theorem dX6_restore_77 : decode cX6_restore 77 = .ok (.iaload, 1) := by decide +kernel
theorem dX6_restore_78 : decode cX6_restore 78 = .ok (.iastore, 1) := by decide +kernel
theorem dX6_restore_79 : decode cX6_restore 79 = .ok (.aload_n 0, 1) := by decide +kernel
theorem dX6_restore_80 : decode cX6_restore 80 = .ok (.getfield 23, 3) := by decide +kernel
theorem dX6_restore_83 : decode cX6_restore 83 = .ok (.iload_n 2, 1) := by decide +kernel
theorem dX6_restore_84 : decode cX6_restore 84 = .ok (.aload_n 0, 1) := by decide +kernel
theorem dX6_restore_85 : decode cX6_restore 85 = .ok (.getfield 42, 3) := by decide +kernel
theorem dX6_restore_88 : decode cX6_restore 88 = .ok (.bipush 40, 2) := by decide +kernel
theorem dX6_restore_90 : decode cX6_restore 90 = .ok (.iload_n 1, 1) := by decide +kernel
theorem dX6_restore_91 : decode cX6_restore 91 = .ok (.imul, 1) := by decide +kernel
theorem dX6_restore_92 : decode cX6_restore 92 = .ok (.iload_n 2, 1) := by decide +kernel
theorem dX6_restore_93 : decode cX6_restore 93 = .ok (.iadd, 1) := by decide +kernel
theorem dX6_restore_94 : decode cX6_restore 94 = .ok (.baload, 1) := by decide +kernel
theorem dX6_restore_95 : decode cX6_restore 95 = .ok (.bastore, 1) := by decide +kernel
theorem dX6_restore_96 : decode cX6_restore 96 = .ok (.iinc 2 1, 3) := by decide +kernel
theorem dX6_restore_99 : decode cX6_restore 99 = .ok (.goto (-77), 3) := by decide +kernel
theorem dX6_restore_102 : decode cX6_restore 102 = .ok (.return_, 1) := by decide +kernel
set_option maxRecDepth 20000 in
theorem ggX6_begins_X6_store : GoodIn wsX6_begins wsX6_store := goodIn_r _ [12, 2, 13, 3, 14, 4, 15, 5, 16, 6, 17, 7, 18, 19, 20, 21, 22, 23, 24, 25, 26, 27, 28, 29, 30, 31, 32, 33, 34, 35, 36, 37, 38, 39, 40, 41, 42, 43] (by decide +kernel) (by decide +kernel)
set_option maxRecDepth 20000 in
theorem gX6_begins_X6_store : GoodIn wsX6_begins (wsV RX6 89 RX6 yX6_store wsX6_store) := goodIn_app (goodIn_of _ (by decide +kernel)) ggX6_begins_X6_store
theorem dX6_begins_0 : decode cX6_begins 0 = .ok (.aload_n 0, 1) := by decide +kernel
theorem dX6_begins_1 : decode cX6_begins 1 = .ok (.getfield 86, 3) := by decide +kernel
theorem dX6_begins_4 : decode cX6_begins 4 = .ok (.bipush 25, 2) := by decide +kernel
theorem dX6_begins_6 : decode cX6_begins 6 = .ok (.if_icmp .ne 126, 3) := by decide +kernel
theorem dX6_begins_9 : decode cX6_begins 9 = .ok (.iconst 0, 1) := by decide +kernel
theorem dX6_begins_10 : decode cX6_begins 10 = .ok (.istore_n 1, 1) := by decide +kernel
theorem dX6_begins_11 : decode cX6_begins 11 = .ok (.iload_n 1, 1) := by decide +kernel
theorem dX6_begins_12 : decode cX6_begins 12 = .ok (.bipush 24, 2) := by decide +kernel
theorem dX6_begins_14 : decode cX6_begins 14 = .ok (.if_icmp .ge 37, 3) := by decide +kernel
theorem dX6_begins_17 : decode cX6_begins 17 = .ok (.aload_n 0, 1) := by decide +kernel
theorem dX6_begins_18 : decode cX6_begins 18 = .ok (.getfield 27, 3) := by decide +kernel
theorem dX6_begins_21 : decode cX6_begins 21 = .ok (.iload_n 1, 1) := by decide +kernel
theorem dX6_begins_22 : decode cX6_begins 22 = .ok (.aload_n 0, 1) := by decide +kernel
theorem dX6_begins_23 : decode cX6_begins 23 = .ok (.getfield 27, 3) := by decide +kernel
theorem dX6_begins_26 : decode cX6_begins 26 = .ok (.iload_n 1, 1) := by decide +kernel
theorem dX6_begins_27 : decode cX6_begins 27 = .ok (.iconst 1, 1) := by decide +kernel
theorem dX6_begins_28 : decode cX6_begins 28 = .ok (.iadd, 1) := by decide +kernel
theorem dX6_begins_29 : decode cX6_begins 29 = .ok (.iaload, 1) := by decide +kernel
theorem dX6_begins_30 : decode cX6_begins 30 = .ok (.iastore, 1) := by decide +kernel
theorem dX6_begins_31 : decode cX6_begins 31 = .ok (.aload_n 0, 1) := by decide +kernel
theorem dX6_begins_32 : decode cX6_begins 32 = .ok (.getfield 30, 3) := by decide +kernel
theorem dX6_begins_35 : decode cX6_begins 35 = .ok (.iload_n 1, 1) := by decide +kernel
theorem dX6_begins_36 : decode cX6_begins 36 = .ok (.aload_n 0, 1) := by decide +kernel
theorem dX6_begins_37 : decode cX6_begins 37 = .ok (.getfield 30, 3) := by decide +kernel
theorem dX6_begins_40 : decode cX6_begins 40 = .ok (.iload_n 1, 1) := by decide +kernel
theorem dX6_begins_41 : decode cX6_begins 41 = .ok (.iconst 1, 1) := by decide +kernel
theorem dX6_begins_42 : decode cX6_begins 42 = .ok (.iadd, 1) := by decide +kernel
theorem dX6_begins_43 : decode cX6_begins 43 = .ok (.iaload, 1) := by decide +kernel
theorem dX6_begins_44 : decode cX6_begins 44 = .ok (.iastore, 1) := by decide +kernel
theorem dX6_begins_45 : decode cX6_begins 45 = .ok (.iinc 1 1, 3) := by decide +kernel
theorem dX6_begins_48 : decode cX6_begins 48 = .ok (.goto (-37), 3) := by decide +kernel
theorem dX6_begins_51 : decode cX6_begins 51 = .ok (.iconst 0, 1) := by decide +kernel
theorem dX6_begins_52 : decode cX6_begins 52 = .ok (.istore_n 1, 1) := by decide +kernel
theorem dX6_begins_53 : decode cX6_begins 53 = .ok (.iload_n 1, 1) := by decide +kernel
theorem dX6_begins_54 : decode cX6_begins 54 = .ok (.sipush 960, 3) := by decide +kernel
theorem dX6_begins_57 : decode cX6_begins 57 = .ok (.if_icmp .ge 69, 3) := by decide +kernel
theorem dX6_begins_60 : decode cX6_begins 60 = .ok (.aload_n 0, 1) := by decide +kernel
theorem dX6_begins_61 : decode cX6_begins 61 = .ok (.getfield 33, 3) := by decide +kernel
theorem dX6_begins_64 : decode cX6_begins 64 = .ok (.iload_n 1, 1) := by decide +kernel
theorem dX6_begins_65 : decode cX6_begins 65 = .ok (.aload_n 0, 1) := by decide +kernel
theorem dX6_begins_66 : decode cX6_begins 66 = .ok (.getfield 33, 3) := by decide +kernel
theorem dX6_begins_69 : decode cX6_begins 69 = .ok (.iload_n 1, 1) := by decide +kernel
theorem dX6_begins_70 : decode cX6_begins 70 = .ok (.bipush 40, 2) := by decide +kernel
theorem dX6_begins_72 : decode cX6_begins 72 = .ok (.iadd, 1) := by decide +kernel
theorem dX6_begins_73 : decode cX6_begins 73 = .ok (.iaload, 1) := by decide +kernel
theorem dX6_begins_74 : decode cX6_begins 74 = .ok (.iastore, 1) := by decide +kernel
theorem dX6_begins_75 : decode cX6_begins 75 = .ok (.aload_n 0, 1) := by decide +kernel
theorem dX6_begins_76 : decode cX6_begins 76 = .ok (.getfield 36, 3) := by decide +kernel
theorem dX6_begins_79 : decode cX6_begins 79 = .ok (.iload_n 1, 1) := by decide +kernel
theorem dX6_begins_80 : decode cX6_begins 80 = .ok (.aload_n 0, 1) := by decide +kernel
theorem dX6_begins_81 : decode cX6_begins 81 = .ok (.getfield 36, 3) := by decide +kernel
theorem dX6_begins_84 : decode cX6_begins 84 = .ok (.iload_n 1, 1) := by decide +kernel
theorem dX6_begins_85 : decode cX6_begins 85 = .ok (.bipush 40, 2) := by decide +kernel
theorem dX6_begins_87 : decode cX6_begins 87 = .ok (.iadd, 1) := by decide +kernel
theorem dX6_begins_88 : decode cX6_begins 88 = .ok (.iaload, 1) := by decide +kernel
theorem dX6_begins_89 : decode cX6_begins 89 = .ok (.iastore, 1) := by decide +kernel
theorem dX6_begins_90 : decode cX6_begins 90 = .ok (.aload_n 0, 1) := by decide +kernel
theorem dX6_begins_91 : decode cX6_begins 91 = .ok (.getfield 39, 3) := by decide +kernel
theorem dX6_begins_94 : decode cX6_begins 94 = .ok (.iload_n 1, 1) := by decide +kernel
theorem dX6_begins_95 : decode cX6_begins 95 = .ok (.aload_n 0, 1) := by decide +kernel
theorem dX6_begins_96 : decode cX6_begins 96 = .ok (.getfield 39, 3) := by decide +kernel
theorem dX6_begins_99 : decode cX6_begins 99 = .ok (.iload_n 1, 1) := by decide +kernel
theorem dX6_begins_100 : decode cX6_begins 100 = .ok (.bipush 40, 2) := by decide +kernel
theorem dX6_begins_102 : decode cX6_begins 102 = .ok (.iadd, 1) := by decide +kernel
theorem dX6_begins_103 : decode cX6_begins 103 = .ok (.iaload, 1) := by decide +kernel
theorem dX6_begins_104 : decode cX6_begins 104 = .ok (.iastore, 1) := by decide +kernel
theorem dX6_begins_105 : decode cX6_begins 105 = .ok (.aload_n 0, 1) := by decide +kernel
theorem dX6_begins_106 : decode cX6_begins 106 = .ok (.getfield 42, 3) := by decide +kernel
theorem dX6_begins_109 : decode cX6_begins 109 = .ok (.iload_n 1, 1) := by decide +kernel
theorem dX6_begins_110 : decode cX6_begins 110 = .ok (.aload_n 0, 1) := by decide +kernel
theorem dX6_begins_111 : decode cX6_begins 111 = .ok (.getfield 42, 3) := by decide +kernel
theorem dX6_begins_114 : decode cX6_begins 114 = .ok (.iload_n 1, 1) := by decide +kernel
theorem dX6_begins_115 : decode cX6_begins 115 = .ok (.bipush 40, 2) := by decide +kernel
theorem dX6_begins_117 : decode cX6_begins 117 = .ok (.iadd, 1) := by decide +kernel
theorem dX6_begins_118 : decode cX6_begins 118 = .ok (.baload, 1) := by decide +kernel
theorem dX6_begins_119 : decode cX6_begins 119 = .ok (.bastore, 1) := by decide +kernel
theorem dX6_begins_120 : decode cX6_begins 120 = .ok (.iinc 1 1, 3) := by decide +kernel
theorem dX6_begins_123 : decode cX6_begins 123 = .ok (.goto (-70), 3) := by decide +kernel
theorem dX6_begins_126 : decode cX6_begins 126 = .ok (.aload_n 0, 1) := by decide +kernel
theorem dX6_begins_127 : decode cX6_begins 127 = .ok (.bipush 24, 2) := by decide +kernel
theorem dX6_begins_129 : decode cX6_begins 129 = .ok (.putfield 86, 3) := by decide +kernel
theorem dX6_begins_132 : decode cX6_begins 132 = .ok (.aload_n 0, 1) := by decide +kernel
theorem dX6_begins_133 : decode cX6_begins 133 = .ok (.aload_n 0, 1) := by decide +kernel
theorem dX6_begins_134 : decode cX6_begins 134 = .ok (.getfield 86, 3) := by decide +kernel
theorem dX6_begins_137 : decode cX6_begins 137 = .ok (.invokevirtual 89, 3) := by decide +kernel
theorem dX6_begins_140 : decode cX6_begins 140 = .ok (.aload_n 0, 1) := by decide +kernel
theorem dX6_begins_141 : decode cX6_begins 141 = .ok (.dup, 1) := by decide +kernel
theorem dX6_begins_142 : decode cX6_begins 142 = .ok (.getfield 86, 3) := by decide +kernel
theorem dX6_begins_145 : decode cX6_begins 145 = .ok (.iconst 1, 1) := by decide +kernel
theorem dX6_begins_146 : decode cX6_begins 146 = .ok (.iadd, 1) := by decide +kernel
theorem dX6_begins_147 : decode cX6_begins 147 = .ok (.putfield 86, 3) := by decide +kernel
theorem dX6_begins_150 : decode cX6_begins 150 = .ok (.return_, 1) := by decide +kernel
set_option maxRecDepth 20000 in
theorem ggX6_undo_X6_found : GoodIn wsX6_undo wsX6_found := goodIn_r _ [6, 7, 24, 25, 26, 27, 28, 29, 30, 31, 32, 33, 34, 35, 36, 37, 38, 39, 40, 41, 42, 43, 44, 45, 46, 47, 48] (by decide +kernel) (by decide +kernel)
set_option maxRecDepth 20000 in
theorem gX6_undo_X6_found : GoodIn wsX6_undo (wsV RX6 93 RX6 yX6_found wsX6_found) := goodIn_app (goodIn_of _ (by decide +kernel)) ggX6_undo_X6_found
set_option maxRecDepth 20000 in
theorem ggX6_undo_X6_restore : GoodIn wsX6_undo wsX6_restore := goodIn_r _ [11, 12, 13, 14, 15, 16, 17, 18, 19, 20, 21, 22, 23, 24, 25, 26, 27, 28, 29, 30, 31, 32, 33, 34, 35, 36, 37, 38, 39, 40, 41, 42, 43, 44, 45, 46, 47, 48] (by decide +kernel) (by decide +kernel)
set_option maxRecDepth 20000 in
theorem gX6_undo_X6_restore : GoodIn wsX6_undo (wsV RX6 97 RX6 yX6_restore wsX6_restore) := goodIn_app (goodIn_of _ (by decide +kernel)) ggX6_undo_X6_restore
theorem dX6_undo_0 : decode cX6_undo 0 = .ok (.aload_n 0, 1) := by decide +kernel
theorem dX6_undo_1 : decode cX6_undo 1 = .ok (.getfield 86, 3) := by decide +kernel
theorem dX6_undo_4 : decode cX6_undo 4 = .ok (.ifCond .ne 10, 3) := by decide +kernel
theorem dX6_undo_7 : decode cX6_undo 7 = .ok (.aload_n 0, 1) := by decide +kernel
theorem dX6_undo_8 : decode cX6_undo 8 = .ok (.bipush (-6), 2) := by decide +kernel
theorem dX6_undo_10 : decode cX6_undo 10 = .ok (.invokevirtual 93, 3) := by decide +kernel
theorem dX6_undo_13 : decode cX6_undo 13 = .ok (.ireturn, 1) := by decide +kernel
theorem dX6_undo_14 : decode cX6_undo 14 = .ok (.aload_n 0, 1) := by decide +kernel
theorem dX6_undo_15 : decode cX6_undo 15 = .ok (.dup, 1) := by decide +kernel
theorem dX6_undo_16 : decode cX6_undo 16 = .ok (.getfield 86, 3) := by decide +kernel
theorem dX6_undo_19 : decode cX6_undo 19 = .ok (.iconst 1, 1) := by decide +kernel
theorem dX6_undo_20 : decode cX6_undo 20 = .ok (.isub, 1) := by decide +kernel
theorem dX6_undo_21 : decode cX6_undo 21 = .ok (.putfield 86, 3) := by decide +kernel
theorem dX6_undo_24 : decode cX6_undo 24 = .ok (.aload_n 0, 1) := by decide +kernel
theorem dX6_undo_25 : decode cX6_undo 25 = .ok (.aload_n 0, 1) := by decide +kernel
theorem dX6_undo_26 : decode cX6_undo 26 = .ok (.getfield 86, 3) := by decide +kernel
theorem dX6_undo_29 : decode cX6_undo 29 = .ok (.invokevirtual 97, 3) := by decide +kernel
theorem dX6_undo_32 : decode cX6_undo 32 = .ok (.aload_n 0, 1) := by decide +kernel
theorem dX6_undo_33 : decode cX6_undo 33 = .ok (.getfield 86, 3) := by decide +kernel
theorem dX6_undo_36 : decode cX6_undo 36 = .ok (.ireturn, 1) := by decide +kernel
set_option maxRecDepth 20000 in
theorem ggX6_lanes_X6_in : GoodIn wsX6_lanes wsX6_in := goodIn_r _ [6] (by decide +kernel) (by decide +kernel)
set_option maxRecDepth 20000 in
theorem gX6_lanes_X6_in : GoodIn wsX6_lanes (va_wsS RX6 82 yX6_in wsX6_in) := goodIn_app (goodIn_of _ (by decide +kernel)) ggX6_lanes_X6_in
set_option maxRecDepth 20000 in
theorem ggX6_lanes_X6_found : GoodIn wsX6_lanes wsX6_found := goodIn_r _ [10, 11, 31, 32, 33, 34, 35, 36, 37, 38, 39, 40, 41, 42, 43, 44, 45, 46, 47, 48, 49, 50, 51, 52, 53, 54, 55] (by decide +kernel) (by decide +kernel)
set_option maxRecDepth 20000 in
theorem gX6_lanes_X6_found : GoodIn wsX6_lanes (wsV RX6 93 RX6 yX6_found wsX6_found) := goodIn_app (goodIn_of _ (by decide +kernel)) ggX6_lanes_X6_found
set_option maxRecDepth 20000 in
theorem ggX6_lanes_X6_begins : GoodIn wsX6_lanes wsX6_begins := goodIn_r _ [15, 16, 17, 18, 19, 20, 21, 22, 23, 24, 25, 5, 26, 2, 1, 27, 28, 29, 30, 31, 32, 33, 34, 35, 36, 37, 38, 39, 40, 41, 42, 43, 44, 45, 46, 47, 48, 49, 50, 51, 52, 53, 54, 55] (by decide +kernel) (by decide +kernel)
set_option maxRecDepth 20000 in
theorem gX6_lanes_X6_begins : GoodIn wsX6_lanes (wsV RX6 100 RX6 yX6_begins wsX6_begins) := goodIn_app (goodIn_of _ (by decide +kernel)) ggX6_lanes_X6_begins
theorem dX6_lanes_0 : decode cX6_lanes 0 = .ok (.iload_n 1, 1) := by decide +kernel
theorem dX6_lanes_1 : decode cX6_lanes 1 = .ok (.iconst 2, 1) := by decide +kernel
theorem dX6_lanes_2 : decode cX6_lanes 2 = .ok (.bipush 8, 2) := by decide +kernel
theorem dX6_lanes_4 : decode cX6_lanes 4 = .ok (.invokestatic 82, 3) := by decide +kernel
theorem dX6_lanes_7 : decode cX6_lanes 7 = .ok (.ifCond .ne 9, 3) := by decide +kernel
theorem dX6_lanes_10 : decode cX6_lanes 10 = .ok (.aload_n 0, 1) := by decide +kernel
theorem dX6_lanes_11 : decode cX6_lanes 11 = .ok (.iconst (-1), 1) := by decide +kernel
theorem dX6_lanes_12 : decode cX6_lanes 12 = .ok (.invokevirtual 93, 3) := by decide +kernel
theorem dX6_lanes_15 : decode cX6_lanes 15 = .ok (.ireturn, 1) := by decide +kernel
theorem dX6_lanes_16 : decode cX6_lanes 16 = .ok (.aload_n 0, 1) := by decide +kernel
theorem dX6_lanes_17 : decode cX6_lanes 17 = .ok (.invokevirtual 100, 3) := by decide +kernel
theorem dX6_lanes_20 : decode cX6_lanes 20 = .ok (.aload_n 0, 1) := by decide +kernel
theorem dX6_lanes_21 : decode cX6_lanes 21 = .ok (.getfield 79, 3) := by decide +kernel
theorem dX6_lanes_24 : decode cX6_lanes 24 = .ok (.istore_n 2, 1) := by decide +kernel
theorem dX6_lanes_25 : decode cX6_lanes 25 = .ok (.aload_n 0, 1) := by decide +kernel
theorem dX6_lanes_26 : decode cX6_lanes 26 = .ok (.iload_n 1, 1) := by decide +kernel
theorem dX6_lanes_27 : decode cX6_lanes 27 = .ok (.putfield 7, 3) := by decide +kernel
theorem dX6_lanes_30 : decode cX6_lanes 30 = .ok (.aload_n 0, 1) := by decide +kernel
theorem dX6_lanes_31 : decode cX6_lanes 31 = .ok (.iconst 0, 1) := by decide +kernel
theorem dX6_lanes_32 : decode cX6_lanes 32 = .ok (.putfield 79, 3) := by decide +kernel
theorem dX6_lanes_35 : decode cX6_lanes 35 = .ok (.iload_n 2, 1) := by decide +kernel
theorem dX6_lanes_36 : decode cX6_lanes 36 = .ok (.ireturn, 1) := by decide +kernel
theorem dX6_add_0 : decode cX6_add 0 = .ok (.aload_n 0, 1) := by decide +kernel
theorem dX6_add_1 : decode cX6_add 1 = .ok (.getfield 13, 3) := by decide +kernel
theorem dX6_add_4 : decode cX6_add 4 = .ok (.aload_n 0, 1) := by decide +kernel
theorem dX6_add_5 : decode cX6_add 5 = .ok (.getfield 79, 3) := by decide +kernel
theorem dX6_add_8 : decode cX6_add 8 = .ok (.iload_n 1, 1) := by decide +kernel
theorem dX6_add_9 : decode cX6_add 9 = .ok (.iastore, 1) := by decide +kernel
theorem dX6_add_10 : decode cX6_add 10 = .ok (.aload_n 0, 1) := by decide +kernel
theorem dX6_add_11 : decode cX6_add 11 = .ok (.getfield 17, 3) := by decide +kernel
theorem dX6_add_14 : decode cX6_add 14 = .ok (.aload_n 0, 1) := by decide +kernel
theorem dX6_add_15 : decode cX6_add 15 = .ok (.getfield 79, 3) := by decide +kernel
theorem dX6_add_18 : decode cX6_add 18 = .ok (.iload_n 2, 1) := by decide +kernel
theorem dX6_add_19 : decode cX6_add 19 = .ok (.iastore, 1) := by decide +kernel
theorem dX6_add_20 : decode cX6_add 20 = .ok (.aload_n 0, 1) := by decide +kernel
theorem dX6_add_21 : decode cX6_add 21 = .ok (.getfield 20, 3) := by decide +kernel
theorem dX6_add_24 : decode cX6_add 24 = .ok (.aload_n 0, 1) := by decide +kernel
theorem dX6_add_25 : decode cX6_add 25 = .ok (.getfield 79, 3) := by decide +kernel
theorem dX6_add_28 : decode cX6_add 28 = .ok (.iload_n 3, 1) := by decide +kernel
theorem dX6_add_29 : decode cX6_add 29 = .ok (.iastore, 1) := by decide +kernel
theorem dX6_add_30 : decode cX6_add 30 = .ok (.aload_n 0, 1) := by decide +kernel
theorem dX6_add_31 : decode cX6_add 31 = .ok (.getfield 23, 3) := by decide +kernel
theorem dX6_add_34 : decode cX6_add 34 = .ok (.aload_n 0, 1) := by decide +kernel
theorem dX6_add_35 : decode cX6_add 35 = .ok (.getfield 79, 3) := by decide +kernel
theorem dX6_add_38 : decode cX6_add 38 = .ok (.iconst 1, 1) := by decide +kernel
theorem dX6_add_39 : decode cX6_add 39 = .ok (.bastore, 1) := by decide +kernel
theorem dX6_add_40 : decode cX6_add 40 = .ok (.aload_n 0, 1) := by decide +kernel
theorem dX6_add_41 : decode cX6_add 41 = .ok (.dup, 1) := by decide +kernel
theorem dX6_add_42 : decode cX6_add 42 = .ok (.getfield 79, 3) := by decide +kernel
theorem dX6_add_45 : decode cX6_add 45 = .ok (.iconst 1, 1) := by decide +kernel
theorem dX6_add_46 : decode cX6_add 46 = .ok (.iadd, 1) := by decide +kernel
theorem dX6_add_47 : decode cX6_add 47 = .ok (.putfield 79, 3) := by decide +kernel
theorem dX6_add_50 : decode cX6_add 50 = .ok (.return_, 1) := by decide +kernel
set_option maxRecDepth 20000 in
theorem ggX6_comparer_X6_in : GoodIn wsX6_comparer wsX6_in := goodIn_r _ [5] (by decide +kernel) (by decide +kernel)
set_option maxRecDepth 20000 in
theorem gX6_comparer_X6_in : GoodIn wsX6_comparer (va_wsS RX6 82 yX6_in wsX6_in) := goodIn_app (goodIn_of _ (by decide +kernel)) ggX6_comparer_X6_in
set_option maxRecDepth 20000 in
theorem ggX6_comparer_X6_isLane : GoodIn wsX6_comparer wsX6_isLane := goodIn_r _ [9, 10, 2, 3, 4, 5, 39, 40, 41, 42, 43, 44, 45, 46, 47, 48, 49, 50, 51, 52, 53, 54, 55, 56, 57, 58, 59, 60, 61, 62, 63] (by decide +kernel) (by decide +kernel)
set_option maxRecDepth 20000 in
theorem gX6_comparer_X6_isLane : GoodIn wsX6_comparer (wsV RX6 103 RX6 yX6_isLane wsX6_isLane) := goodIn_app (goodIn_of _ (by decide +kernel)) ggX6_comparer_X6_isLane
set_option maxRecDepth 20000 in
theorem ggX6_comparer_X6_found : GoodIn wsX6_comparer wsX6_found := goodIn_r _ [14, 15, 39, 40, 41, 42, 43, 44, 45, 46, 47, 48, 49, 50, 51, 52, 53, 54, 55, 56, 57, 58, 59, 60, 61, 62, 63] (by decide +kernel) (by decide +kernel)
set_option maxRecDepth 20000 in
theorem gX6_comparer_X6_found : GoodIn wsX6_comparer (wsV RX6 93 RX6 yX6_found wsX6_found) := goodIn_app (goodIn_of _ (by decide +kernel)) ggX6_comparer_X6_found
set_option maxRecDepth 20000 in
theorem ggX6_comparer_X6_begins : GoodIn wsX6_comparer wsX6_begins := goodIn_r _ [19, 20, 21, 22, 23, 24, 25, 26, 27, 28, 29, 4, 30, 10, 1, 31, 32, 33, 34, 39, 40, 41, 42, 43, 44, 45, 46, 47, 48, 49, 50, 51, 52, 53, 54, 55, 56, 57, 58, 59, 60, 61, 62, 63] (by decide +kernel) (by decide +kernel)
set_option maxRecDepth 20000 in
theorem gX6_comparer_X6_begins : GoodIn wsX6_comparer (wsV RX6 100 RX6 yX6_begins wsX6_begins) := goodIn_app (goodIn_of _ (by decide +kernel)) ggX6_comparer_X6_begins
set_option maxRecDepth 20000 in
theorem ggX6_comparer_X6_add : GoodIn wsX6_comparer wsX6_add := goodIn_r _ [38, 31, 1, 32, 33, 34, 39, 40, 41, 42, 43, 44, 45, 46, 47, 48, 49, 50, 51, 52, 53, 54, 55, 56, 57, 58, 59, 60, 61, 62, 63] (by decide +kernel) (by decide +kernel)
set_option maxRecDepth 20000 in
theorem gX6_comparer_X6_add : GoodIn wsX6_comparer (wsV RX6 107 RX6 yX6_add wsX6_add) := goodIn_app (goodIn_of _ (by decide +kernel)) ggX6_comparer_X6_add
theorem dX6_comparer_0 : decode cX6_comparer 0 = .ok (.iload_n 1, 1) := by decide +kernel
theorem dX6_comparer_1 : decode cX6_comparer 1 = .ok (.iconst 0, 1) := by decide +kernel
theorem dX6_comparer_2 : decode cX6_comparer 2 = .ok (.iconst 4, 1) := by decide +kernel
theorem dX6_comparer_3 : decode cX6_comparer 3 = .ok (.invokestatic 82, 3) := by decide +kernel
theorem dX6_comparer_6 : decode cX6_comparer 6 = .ok (.ifCond .eq 19, 3) := by decide +kernel
theorem dX6_comparer_9 : decode cX6_comparer 9 = .ok (.aload_n 0, 1) := by decide +kernel
theorem dX6_comparer_10 : decode cX6_comparer 10 = .ok (.iload_n 2, 1) := by decide +kernel
theorem dX6_comparer_11 : decode cX6_comparer 11 = .ok (.invokevirtual 103, 3) := by decide +kernel
theorem dX6_comparer_14 : decode cX6_comparer 14 = .ok (.ifCond .eq 11, 3) := by decide +kernel
theorem dX6_comparer_17 : decode cX6_comparer 17 = .ok (.aload_n 0, 1) := by decide +kernel
theorem dX6_comparer_18 : decode cX6_comparer 18 = .ok (.iload_n 3, 1) := by decide +kernel
theorem dX6_comparer_19 : decode cX6_comparer 19 = .ok (.invokevirtual 103, 3) := by decide +kernel
theorem dX6_comparer_22 : decode cX6_comparer 22 = .ok (.ifCond .ne 9, 3) := by decide +kernel
theorem dX6_comparer_25 : decode cX6_comparer 25 = .ok (.aload_n 0, 1) := by decide +kernel
theorem dX6_comparer_26 : decode cX6_comparer 26 = .ok (.iconst (-1), 1) := by decide +kernel
theorem dX6_comparer_27 : decode cX6_comparer 27 = .ok (.invokevirtual 93, 3) := by decide +kernel
theorem dX6_comparer_30 : decode cX6_comparer 30 = .ok (.ireturn, 1) := by decide +kernel
theorem dX6_comparer_31 : decode cX6_comparer 31 = .ok (.iload_n 2, 1) := by decide +kernel
theorem dX6_comparer_32 : decode cX6_comparer 32 = .ok (.iload_n 3, 1) := by decide +kernel
theorem dX6_comparer_33 : decode cX6_comparer 33 = .ok (.if_icmp .lt 10, 3) := by decide +kernel
theorem dX6_comparer_36 : decode cX6_comparer 36 = .ok (.aload_n 0, 1) := by decide +kernel
theorem dX6_comparer_37 : decode cX6_comparer 37 = .ok (.bipush (-3), 2) := by decide +kernel
theorem dX6_comparer_39 : decode cX6_comparer 39 = .ok (.invokevirtual 93, 3) := by decide +kernel
theorem dX6_comparer_42 : decode cX6_comparer 42 = .ok (.ireturn, 1) := by decide +kernel
theorem dX6_comparer_43 : decode cX6_comparer 43 = .ok (.aload_n 0, 1) := by decide +kernel
theorem dX6_comparer_44 : decode cX6_comparer 44 = .ok (.getfield 79, 3) := by decide +kernel
theorem dX6_comparer_47 : decode cX6_comparer 47 = .ok (.bipush 40, 2) := by decide +kernel
theorem dX6_comparer_49 : decode cX6_comparer 49 = .ok (.if_icmp .ne 10, 3) := by decide +kernel
theorem dX6_comparer_52 : decode cX6_comparer 52 = .ok (.aload_n 0, 1) := by decide +kernel
theorem dX6_comparer_53 : decode cX6_comparer 53 = .ok (.bipush (-5), 2) := by decide +kernel
theorem dX6_comparer_55 : decode cX6_comparer 55 = .ok (.invokevirtual 93, 3) := by decide +kernel
theorem dX6_comparer_58 : decode cX6_comparer 58 = .ok (.ireturn, 1) := by decide +kernel
theorem dX6_comparer_59 : decode cX6_comparer 59 = .ok (.aload_n 0, 1) := by decide +kernel
theorem dX6_comparer_60 : decode cX6_comparer 60 = .ok (.invokevirtual 100, 3) := by decide +kernel
theorem dX6_comparer_63 : decode cX6_comparer 63 = .ok (.aload_n 0, 1) := by decide +kernel
theorem dX6_comparer_64 : decode cX6_comparer 64 = .ok (.iload_n 1, 1) := by decide +kernel
theorem dX6_comparer_65 : decode cX6_comparer 65 = .ok (.iload_n 2, 1) := by decide +kernel
theorem dX6_comparer_66 : decode cX6_comparer 66 = .ok (.iload_n 3, 1) := by decide +kernel
theorem dX6_comparer_67 : decode cX6_comparer 67 = .ok (.invokevirtual 107, 3) := by decide +kernel
theorem dX6_comparer_70 : decode cX6_comparer 70 = .ok (.aload_n 0, 1) := by decide +kernel
theorem dX6_comparer_71 : decode cX6_comparer 71 = .ok (.getfield 79, 3) := by decide +kernel
theorem dX6_comparer_74 : decode cX6_comparer 74 = .ok (.ireturn, 1) := by decide +kernel
set_option maxRecDepth 20000 in
theorem ggX6_cut_X6_in : GoodIn wsX6_cut wsX6_in := goodIn_r _ [5] (by decide +kernel) (by decide +kernel)
set_option maxRecDepth 20000 in
theorem gX6_cut_X6_in : GoodIn wsX6_cut (va_wsS RX6 82 yX6_in wsX6_in) := goodIn_app (goodIn_of _ (by decide +kernel)) ggX6_cut_X6_in
set_option maxRecDepth 20000 in
theorem ggX6_cut_X6_found : GoodIn wsX6_cut wsX6_found := goodIn_r _ [9, 10, 31, 32, 33, 34, 35, 36, 37, 38, 39, 40, 41, 42, 43, 44, 45, 46, 47, 48, 49, 50, 51, 52, 53, 54, 55] (by decide +kernel) (by decide +kernel)
set_option maxRecDepth 20000 in
theorem gX6_cut_X6_found : GoodIn wsX6_cut (wsV RX6 93 RX6 yX6_found wsX6_found) := goodIn_app (goodIn_of _ (by decide +kernel)) ggX6_cut_X6_found
set_option maxRecDepth 20000 in
theorem ggX6_cut_X6_begins : GoodIn wsX6_cut wsX6_begins := goodIn_r _ [14, 15, 16, 17, 18, 19, 20, 21, 22, 23, 24, 4, 25, 26, 1, 27, 28, 29, 30, 31, 32, 33, 34, 35, 36, 37, 38, 39, 40, 41, 42, 43, 44, 45, 46, 47, 48, 49, 50, 51, 52, 53, 54, 55] (by decide +kernel) (by decide +kernel)
set_option maxRecDepth 20000 in
theorem gX6_cut_X6_begins : GoodIn wsX6_cut (wsV RX6 100 RX6 yX6_begins wsX6_begins) := goodIn_app (goodIn_of _ (by decide +kernel)) ggX6_cut_X6_begins
theorem dX6_cut_0 : decode cX6_cut 0 = .ok (.iload_n 1, 1) := by decide +kernel
theorem dX6_cut_1 : decode cX6_cut 1 = .ok (.iconst 0, 1) := by decide +kernel
theorem dX6_cut_2 : decode cX6_cut 2 = .ok (.aload_n 0, 1) := by decide +kernel
theorem dX6_cut_3 : decode cX6_cut 3 = .ok (.getfield 79, 3) := by decide +kernel
theorem dX6_cut_6 : decode cX6_cut 6 = .ok (.invokestatic 82, 3) := by decide +kernel
theorem dX6_cut_9 : decode cX6_cut 9 = .ok (.ifCond .ne 9, 3) := by decide +kernel
theorem dX6_cut_12 : decode cX6_cut 12 = .ok (.aload_n 0, 1) := by decide +kernel
theorem dX6_cut_13 : decode cX6_cut 13 = .ok (.iconst (-1), 1) := by decide +kernel
theorem dX6_cut_14 : decode cX6_cut 14 = .ok (.invokevirtual 93, 3) := by decide +kernel
theorem dX6_cut_17 : decode cX6_cut 17 = .ok (.ireturn, 1) := by decide +kernel
theorem dX6_cut_18 : decode cX6_cut 18 = .ok (.aload_n 0, 1) := by decide +kernel
theorem dX6_cut_19 : decode cX6_cut 19 = .ok (.invokevirtual 100, 3) := by decide +kernel
theorem dX6_cut_22 : decode cX6_cut 22 = .ok (.aload_n 0, 1) := by decide +kernel
theorem dX6_cut_23 : decode cX6_cut 23 = .ok (.getfield 79, 3) := by decide +kernel
theorem dX6_cut_26 : decode cX6_cut 26 = .ok (.iload_n 1, 1) := by decide +kernel
theorem dX6_cut_27 : decode cX6_cut 27 = .ok (.isub, 1) := by decide +kernel
theorem dX6_cut_28 : decode cX6_cut 28 = .ok (.istore_n 2, 1) := by decide +kernel
theorem dX6_cut_29 : decode cX6_cut 29 = .ok (.aload_n 0, 1) := by decide +kernel
theorem dX6_cut_30 : decode cX6_cut 30 = .ok (.iload_n 1, 1) := by decide +kernel
theorem dX6_cut_31 : decode cX6_cut 31 = .ok (.putfield 79, 3) := by decide +kernel
theorem dX6_cut_34 : decode cX6_cut 34 = .ok (.iload_n 2, 1) := by decide +kernel
theorem dX6_cut_35 : decode cX6_cut 35 = .ok (.ireturn, 1) := by decide +kernel
set_option maxRecDepth 20000 in
theorem ggX6_change_X6_isComparer : GoodIn wsX6_change wsX6_isComparer := goodIn_r _ [7, 8, 9, 10, 6, 11, 35, 36, 37, 38, 39, 40, 41, 42, 43, 44, 45, 46, 47, 48, 49, 50, 51, 52, 53, 54, 55, 56, 57, 58, 59] (by decide +kernel) (by decide +kernel)
set_option maxRecDepth 20000 in
theorem gX6_change_X6_isComparer : GoodIn wsX6_change (wsV RX6 111 RX6 yX6_isComparer wsX6_isComparer) := goodIn_app (goodIn_of _ (by decide +kernel)) ggX6_change_X6_isComparer
set_option maxRecDepth 20000 in
theorem ggX6_change_X6_in : GoodIn wsX6_change wsX6_in := goodIn_r _ [11] (by decide +kernel) (by decide +kernel)
set_option maxRecDepth 20000 in
theorem gX6_change_X6_in : GoodIn wsX6_change (va_wsS RX6 82 yX6_in wsX6_in) := goodIn_app (goodIn_of _ (by decide +kernel)) ggX6_change_X6_in
set_option maxRecDepth 20000 in
theorem ggX6_change_X6_found : GoodIn wsX6_change wsX6_found := goodIn_r _ [15, 16, 35, 36, 37, 38, 39, 40, 41, 42, 43, 44, 45, 46, 47, 48, 49, 50, 51, 52, 53, 54, 55, 56, 57, 58, 59] (by decide +kernel) (by decide +kernel)
set_option maxRecDepth 20000 in
theorem gX6_change_X6_found : GoodIn wsX6_change (wsV RX6 93 RX6 yX6_found wsX6_found) := goodIn_app (goodIn_of _ (by decide +kernel)) ggX6_change_X6_found
set_option maxRecDepth 20000 in
theorem ggX6_change_X6_begins : GoodIn wsX6_change wsX6_begins := goodIn_r _ [20, 21, 22, 23, 24, 25, 26, 27, 28, 29, 30, 6, 31, 32, 8, 1, 33, 34, 2, 35, 36, 37, 38, 39, 40, 41, 42, 43, 44, 45, 46, 47, 48, 49, 50, 51, 52, 53, 54, 55, 56, 57, 58, 59] (by decide +kernel) (by decide +kernel)
set_option maxRecDepth 20000 in
theorem gX6_change_X6_begins : GoodIn wsX6_change (wsV RX6 100 RX6 yX6_begins wsX6_begins) := goodIn_app (goodIn_of _ (by decide +kernel)) ggX6_change_X6_begins
theorem dX6_change_0 : decode cX6_change 0 = .ok (.aload_n 0, 1) := by decide +kernel
theorem dX6_change_1 : decode cX6_change 1 = .ok (.iload_n 1, 1) := by decide +kernel
theorem dX6_change_2 : decode cX6_change 2 = .ok (.invokevirtual 111, 3) := by decide +kernel
theorem dX6_change_5 : decode cX6_change 5 = .ok (.ifCond .eq 12, 3) := by decide +kernel
theorem dX6_change_8 : decode cX6_change 8 = .ok (.iload_n 2, 1) := by decide +kernel
theorem dX6_change_9 : decode cX6_change 9 = .ok (.iconst 0, 1) := by decide +kernel
theorem dX6_change_10 : decode cX6_change 10 = .ok (.iconst 4, 1) := by decide +kernel
theorem dX6_change_11 : decode cX6_change 11 = .ok (.invokestatic 82, 3) := by decide +kernel
theorem dX6_change_14 : decode cX6_change 14 = .ok (.ifCond .ne 9, 3) := by decide +kernel
theorem dX6_change_17 : decode cX6_change 17 = .ok (.aload_n 0, 1) := by decide +kernel
theorem dX6_change_18 : decode cX6_change 18 = .ok (.iconst (-1), 1) := by decide +kernel
theorem dX6_change_19 : decode cX6_change 19 = .ok (.invokevirtual 93, 3) := by decide +kernel
theorem dX6_change_22 : decode cX6_change 22 = .ok (.ireturn, 1) := by decide +kernel
theorem dX6_change_23 : decode cX6_change 23 = .ok (.aload_n 0, 1) := by decide +kernel
theorem dX6_change_24 : decode cX6_change 24 = .ok (.invokevirtual 100, 3) := by decide +kernel
theorem dX6_change_27 : decode cX6_change 27 = .ok (.aload_n 0, 1) := by decide +kernel
theorem dX6_change_28 : decode cX6_change 28 = .ok (.getfield 13, 3) := by decide +kernel
theorem dX6_change_31 : decode cX6_change 31 = .ok (.iload_n 1, 1) := by decide +kernel
theorem dX6_change_32 : decode cX6_change 32 = .ok (.iaload, 1) := by decide +kernel
theorem dX6_change_33 : decode cX6_change 33 = .ok (.istore_n 3, 1) := by decide +kernel
theorem dX6_change_34 : decode cX6_change 34 = .ok (.aload_n 0, 1) := by decide +kernel
theorem dX6_change_35 : decode cX6_change 35 = .ok (.getfield 13, 3) := by decide +kernel
theorem dX6_change_38 : decode cX6_change 38 = .ok (.iload_n 1, 1) := by decide +kernel
theorem dX6_change_39 : decode cX6_change 39 = .ok (.iload_n 2, 1) := by decide +kernel
theorem dX6_change_40 : decode cX6_change 40 = .ok (.iastore, 1) := by decide +kernel
theorem dX6_change_41 : decode cX6_change 41 = .ok (.aload_n 0, 1) := by decide +kernel
theorem dX6_change_42 : decode cX6_change 42 = .ok (.getfield 23, 3) := by decide +kernel
theorem dX6_change_45 : decode cX6_change 45 = .ok (.iload_n 1, 1) := by decide +kernel
theorem dX6_change_46 : decode cX6_change 46 = .ok (.iconst 1, 1) := by decide +kernel
theorem dX6_change_47 : decode cX6_change 47 = .ok (.bastore, 1) := by decide +kernel
theorem dX6_change_48 : decode cX6_change 48 = .ok (.iload_n 3, 1) := by decide +kernel
theorem dX6_change_49 : decode cX6_change 49 = .ok (.ireturn, 1) := by decide +kernel
set_option maxRecDepth 20000 in
theorem ggX6_turnSwitch_X6_isComparer : GoodIn wsX6_turnSwitch wsX6_isComparer := goodIn_r _ [7, 8, 9, 10, 6, 11, 35, 36, 37, 38, 39, 40, 41, 42, 43, 44, 45, 46, 47, 48, 49, 50, 51, 52, 53, 54, 55, 56, 57, 58, 59] (by decide +kernel) (by decide +kernel)
set_option maxRecDepth 20000 in
theorem gX6_turnSwitch_X6_isComparer : GoodIn wsX6_turnSwitch (wsV RX6 111 RX6 yX6_isComparer wsX6_isComparer) := goodIn_app (goodIn_of _ (by decide +kernel)) ggX6_turnSwitch_X6_isComparer
set_option maxRecDepth 20000 in
theorem ggX6_turnSwitch_X6_found : GoodIn wsX6_turnSwitch wsX6_found := goodIn_r _ [15, 16, 35, 36, 37, 38, 39, 40, 41, 42, 43, 44, 45, 46, 47, 48, 49, 50, 51, 52, 53, 54, 55, 56, 57, 58, 59] (by decide +kernel) (by decide +kernel)
set_option maxRecDepth 20000 in
theorem gX6_turnSwitch_X6_found : GoodIn wsX6_turnSwitch (wsV RX6 93 RX6 yX6_found wsX6_found) := goodIn_app (goodIn_of _ (by decide +kernel)) ggX6_turnSwitch_X6_found
set_option maxRecDepth 20000 in
theorem ggX6_turnSwitch_X6_begins : GoodIn wsX6_turnSwitch wsX6_begins := goodIn_r _ [20, 21, 22, 23, 24, 25, 26, 27, 28, 29, 30, 6, 31, 32, 8, 1, 33, 34, 2, 35, 36, 37, 38, 39, 40, 41, 42, 43, 44, 45, 46, 47, 48, 49, 50, 51, 52, 53, 54, 55, 56, 57, 58, 59] (by decide +kernel) (by decide +kernel)
set_option maxRecDepth 20000 in
theorem gX6_turnSwitch_X6_begins : GoodIn wsX6_turnSwitch (wsV RX6 100 RX6 yX6_begins wsX6_begins) := goodIn_app (goodIn_of _ (by decide +kernel)) ggX6_turnSwitch_X6_begins
theorem dX6_turnSwitch_0 : decode cX6_turnSwitch 0 = .ok (.aload_n 0, 1) := by decide +kernel
theorem dX6_turnSwitch_1 : decode cX6_turnSwitch 1 = .ok (.iload_n 1, 1) := by decide +kernel
theorem dX6_turnSwitch_2 : decode cX6_turnSwitch 2 = .ok (.invokevirtual 111, 3) := by decide +kernel
theorem dX6_turnSwitch_5 : decode cX6_turnSwitch 5 = .ok (.ifCond .ne 9, 3) := by decide +kernel
theorem dX6_turnSwitch_8 : decode cX6_turnSwitch 8 = .ok (.aload_n 0, 1) := by decide +kernel
theorem dX6_turnSwitch_9 : decode cX6_turnSwitch 9 = .ok (.iconst (-1), 1) := by decide +kernel
theorem dX6_turnSwitch_10 : decode cX6_turnSwitch 10 = .ok (.invokevirtual 93, 3) := by decide +kernel
theorem dX6_turnSwitch_13 : decode cX6_turnSwitch 13 = .ok (.ireturn, 1) := by decide +kernel
theorem dX6_turnSwitch_14 : decode cX6_turnSwitch 14 = .ok (.aload_n 0, 1) := by decide +kernel
theorem dX6_turnSwitch_15 : decode cX6_turnSwitch 15 = .ok (.getfield 13, 3) := by decide +kernel
theorem dX6_turnSwitch_18 : decode cX6_turnSwitch 18 = .ok (.iload_n 1, 1) := by decide +kernel
theorem dX6_turnSwitch_19 : decode cX6_turnSwitch 19 = .ok (.iaload, 1) := by decide +kernel
theorem dX6_turnSwitch_20 : decode cX6_turnSwitch 20 = .ok (.iconst 4, 1) := by decide +kernel
theorem dX6_turnSwitch_21 : decode cX6_turnSwitch 21 = .ok (.if_icmp .eq 10, 3) := by decide +kernel
theorem dX6_turnSwitch_24 : decode cX6_turnSwitch 24 = .ok (.aload_n 0, 1) := by decide +kernel
theorem dX6_turnSwitch_25 : decode cX6_turnSwitch 25 = .ok (.bipush (-4), 2) := by decide +kernel
theorem dX6_turnSwitch_27 : decode cX6_turnSwitch 27 = .ok (.invokevirtual 93, 3) := by decide +kernel
theorem dX6_turnSwitch_30 : decode cX6_turnSwitch 30 = .ok (.ireturn, 1) := by decide +kernel
theorem dX6_turnSwitch_31 : decode cX6_turnSwitch 31 = .ok (.aload_n 0, 1) := by decide +kernel
theorem dX6_turnSwitch_32 : decode cX6_turnSwitch 32 = .ok (.invokevirtual 100, 3) := by decide +kernel
theorem dX6_turnSwitch_35 : decode cX6_turnSwitch 35 = .ok (.aload_n 0, 1) := by decide +kernel
theorem dX6_turnSwitch_36 : decode cX6_turnSwitch 36 = .ok (.getfield 23, 3) := by decide +kernel
theorem dX6_turnSwitch_39 : decode cX6_turnSwitch 39 = .ok (.iload_n 1, 1) := by decide +kernel
theorem dX6_turnSwitch_40 : decode cX6_turnSwitch 40 = .ok (.baload, 1) := by decide +kernel
theorem dX6_turnSwitch_41 : decode cX6_turnSwitch 41 = .ok (.istore_n 3, 1) := by decide +kernel
theorem dX6_turnSwitch_42 : decode cX6_turnSwitch 42 = .ok (.aload_n 0, 1) := by decide +kernel
theorem dX6_turnSwitch_43 : decode cX6_turnSwitch 43 = .ok (.getfield 23, 3) := by decide +kernel
theorem dX6_turnSwitch_46 : decode cX6_turnSwitch 46 = .ok (.iload_n 1, 1) := by decide +kernel
theorem dX6_turnSwitch_47 : decode cX6_turnSwitch 47 = .ok (.iload_n 2, 1) := by decide +kernel
theorem dX6_turnSwitch_48 : decode cX6_turnSwitch 48 = .ok (.bastore, 1) := by decide +kernel
theorem dX6_turnSwitch_49 : decode cX6_turnSwitch 49 = .ok (.iload_n 3, 1) := by decide +kernel
theorem dX6_turnSwitch_50 : decode cX6_turnSwitch 50 = .ok (.ifCond .eq 7, 3) := by decide +kernel
theorem dX6_turnSwitch_53 : decode cX6_turnSwitch 53 = .ok (.iconst 1, 1) := by decide +kernel
theorem dX6_turnSwitch_54 : decode cX6_turnSwitch 54 = .ok (.goto 4, 3) := by decide +kernel
theorem dX6_turnSwitch_57 : decode cX6_turnSwitch 57 = .ok (.iconst 0, 1) := by decide +kernel
theorem dX6_turnSwitch_58 : decode cX6_turnSwitch 58 = .ok (.ireturn, 1) := by decide +kernel
theorem dX6_above_0 : decode cX6_above 0 = .ok (.iload_n 0, 1) := by decide +kernel
theorem dX6_above_1 : decode cX6_above 1 = .ok (.ifCond .ne 7, 3) := by decide +kernel
theorem dX6_above_4 : decode cX6_above 4 = .ok (.iconst (-1), 1) := by decide +kernel
theorem dX6_above_5 : decode cX6_above 5 = .ok (.goto 15, 3) := by decide +kernel
theorem dX6_above_8 : decode cX6_above 8 = .ok (.iload_n 0, 1) := by decide +kernel
theorem dX6_above_9 : decode cX6_above 9 = .ok (.iconst 3, 1) := by decide +kernel
theorem dX6_above_10 : decode cX6_above 10 = .ok (.if_icmp .ge 7, 3) := by decide +kernel
theorem dX6_above_13 : decode cX6_above 13 = .ok (.iconst 0, 1) := by decide +kernel
theorem dX6_above_14 : decode cX6_above 14 = .ok (.goto 6, 3) := by decide +kernel
theorem dX6_above_17 : decode cX6_above 17 = .ok (.iload_n 0, 1) := by decide +kernel
theorem dX6_above_18 : decode cX6_above 18 = .ok (.iconst 2, 1) := by decide +kernel
theorem dX6_above_19 : decode cX6_above 19 = .ok (.isub, 1) := by decide +kernel
theorem dX6_above_20 : decode cX6_above 20 = .ok (.ireturn, 1) := by decide +kernel
set_option maxRecDepth 20000 in
theorem ggX6_as_X6_isComparer : GoodIn wsX6_as wsX6_isComparer := goodIn_r _ [6, 7, 8, 9, 5, 10, 19, 20, 21, 22, 23, 24, 25, 26, 27, 28, 29, 30, 31, 32, 33, 34, 35, 36, 37, 38, 39, 40, 41, 42, 43] (by decide +kernel) (by decide +kernel)
set_option maxRecDepth 20000 in
theorem gX6_as_X6_isComparer : GoodIn wsX6_as (wsV RX6 111 RX6 yX6_isComparer wsX6_isComparer) := goodIn_app (goodIn_of _ (by decide +kernel)) ggX6_as_X6_isComparer
set_option maxRecDepth 20000 in
theorem ggX6_as_X6_in : GoodIn wsX6_as wsX6_in := goodIn_r _ [10] (by decide +kernel) (by decide +kernel)
set_option maxRecDepth 20000 in
theorem gX6_as_X6_in : GoodIn wsX6_as (va_wsS RX6 82 yX6_in wsX6_in) := goodIn_app (goodIn_of _ (by decide +kernel)) ggX6_as_X6_in
set_option maxRecDepth 20000 in
theorem ggX6_as_X6_found : GoodIn wsX6_as wsX6_found := goodIn_r _ [14, 15, 19, 20, 21, 22, 23, 24, 25, 26, 27, 28, 29, 30, 31, 32, 33, 34, 35, 36, 37, 38, 39, 40, 41, 42, 43] (by decide +kernel) (by decide +kernel)
set_option maxRecDepth 20000 in
theorem gX6_as_X6_found : GoodIn wsX6_as (wsV RX6 93 RX6 yX6_found wsX6_found) := goodIn_app (goodIn_of _ (by decide +kernel)) ggX6_as_X6_found
set_option maxRecDepth 20000 in
theorem ggX6_as_X6_above : GoodIn wsX6_as wsX6_above := goodIn_r _ [18] (by decide +kernel) (by decide +kernel)
set_option maxRecDepth 20000 in
theorem gX6_as_X6_above : GoodIn wsX6_as (va_wsS RX6 114 yX6_above wsX6_above) := goodIn_app (goodIn_of _ (by decide +kernel)) ggX6_as_X6_above
theorem dX6_as_0 : decode cX6_as 0 = .ok (.aload_n 0, 1) := by decide +kernel
theorem dX6_as_1 : decode cX6_as 1 = .ok (.iload_n 1, 1) := by decide +kernel
theorem dX6_as_2 : decode cX6_as 2 = .ok (.invokevirtual 111, 3) := by decide +kernel
theorem dX6_as_5 : decode cX6_as 5 = .ok (.ifCond .eq 12, 3) := by decide +kernel
theorem dX6_as_8 : decode cX6_as 8 = .ok (.iload_n 2, 1) := by decide +kernel
theorem dX6_as_9 : decode cX6_as 9 = .ok (.iconst 0, 1) := by decide +kernel
theorem dX6_as_10 : decode cX6_as 10 = .ok (.iconst 4, 1) := by decide +kernel
theorem dX6_as_11 : decode cX6_as 11 = .ok (.invokestatic 82, 3) := by decide +kernel
theorem dX6_as_14 : decode cX6_as 14 = .ok (.ifCond .ne 9, 3) := by decide +kernel
theorem dX6_as_17 : decode cX6_as 17 = .ok (.aload_n 0, 1) := by decide +kernel
theorem dX6_as_18 : decode cX6_as 18 = .ok (.iconst (-1), 1) := by decide +kernel
theorem dX6_as_19 : decode cX6_as 19 = .ok (.invokevirtual 93, 3) := by decide +kernel
theorem dX6_as_22 : decode cX6_as 22 = .ok (.ireturn, 1) := by decide +kernel
theorem dX6_as_23 : decode cX6_as 23 = .ok (.aload_n 0, 1) := by decide +kernel
theorem dX6_as_24 : decode cX6_as 24 = .ok (.getfield 13, 3) := by decide +kernel
theorem dX6_as_27 : decode cX6_as 27 = .ok (.iload_n 1, 1) := by decide +kernel
theorem dX6_as_28 : decode cX6_as 28 = .ok (.iaload, 1) := by decide +kernel
theorem dX6_as_29 : decode cX6_as 29 = .ok (.istore_n 3, 1) := by decide +kernel
theorem dX6_as_30 : decode cX6_as 30 = .ok (.iload_n 3, 1) := by decide +kernel
theorem dX6_as_31 : decode cX6_as 31 = .ok (.ifCond .lt 18, 3) := by decide +kernel
theorem dX6_as_34 : decode cX6_as 34 = .ok (.iload_n 3, 1) := by decide +kernel
theorem dX6_as_35 : decode cX6_as 35 = .ok (.iload_n 2, 1) := by decide +kernel
theorem dX6_as_36 : decode cX6_as 36 = .ok (.if_icmp .ne 5, 3) := by decide +kernel
theorem dX6_as_39 : decode cX6_as 39 = .ok (.iload_n 1, 1) := by decide +kernel
theorem dX6_as_40 : decode cX6_as 40 = .ok (.ireturn, 1) := by decide +kernel
theorem dX6_as_41 : decode cX6_as 41 = .ok (.iload_n 3, 1) := by decide +kernel
theorem dX6_as_42 : decode cX6_as 42 = .ok (.invokestatic 114, 3) := by decide +kernel
theorem dX6_as_45 : decode cX6_as 45 = .ok (.istore_n 3, 1) := by decide +kernel
theorem dX6_as_46 : decode cX6_as 46 = .ok (.goto (-16), 3) := by decide +kernel
theorem dX6_as_49 : decode cX6_as 49 = .ok (.aload_n 0, 1) := by decide +kernel
theorem dX6_as_50 : decode cX6_as 50 = .ok (.bipush (-4), 2) := by decide +kernel
theorem dX6_as_52 : decode cX6_as 52 = .ok (.invokevirtual 93, 3) := by decide +kernel
theorem dX6_as_55 : decode cX6_as 55 = .ok (.ireturn, 1) := by decide +kernel
theorem dX6_roundOf_0 : decode cX6_roundOf 0 = .ok (.iconst 0, 1) := by decide +kernel
theorem dX6_roundOf_1 : decode cX6_roundOf 1 = .ok (.istore_n 2, 1) := by decide +kernel
theorem dX6_roundOf_2 : decode cX6_roundOf 2 = .ok (.iconst 0, 1) := by decide +kernel
theorem dX6_roundOf_3 : decode cX6_roundOf 3 = .ok (.istore_n 3, 1) := by decide +kernel
theorem dX6_roundOf_4 : decode cX6_roundOf 4 = .ok (.iload_n 3, 1) := by decide +kernel
theorem dX6_roundOf_5 : decode cX6_roundOf 5 = .ok (.iload_n 1, 1) := by decide +kernel
theorem dX6_roundOf_6 : decode cX6_roundOf 6 = .ok (.if_icmp .gt 130, 3) := by decide +kernel
theorem dX6_roundOf_9 : decode cX6_roundOf 9 = .ok (.iconst 0, 1) := by decide +kernel
theorem dX6_roundOf_10 : decode cX6_roundOf 10 = .ok (.istore_n 2, 1) := by decide +kernel
theorem dX6_roundOf_11 : decode cX6_roundOf 11 = .ok (.iconst 0, 1) := by decide +kernel
theorem dX6_roundOf_12 : decode cX6_roundOf 12 = .ok (.istore 4, 2) := by decide +kernel
theorem dX6_roundOf_14 : decode cX6_roundOf 14 = .ok (.iload 4, 2) := by decide +kernel
theorem dX6_roundOf_16 : decode cX6_roundOf 16 = .ok (.iload_n 3, 1) := by decide +kernel
theorem dX6_roundOf_17 : decode cX6_roundOf 17 = .ok (.if_icmp .ge 104, 3) := by decide +kernel
theorem dX6_roundOf_20 : decode cX6_roundOf 20 = .ok (.aload_n 0, 1) := by decide +kernel
theorem dX6_roundOf_21 : decode cX6_roundOf 21 = .ok (.getfield 17, 3) := by decide +kernel
theorem dX6_roundOf_24 : decode cX6_roundOf 24 = .ok (.iload 4, 2) := by decide +kernel
theorem dX6_roundOf_26 : decode cX6_roundOf 26 = .ok (.iaload, 1) := by decide +kernel
theorem dX6_roundOf_27 : decode cX6_roundOf 27 = .ok (.aload_n 0, 1) := by decide +kernel
theorem dX6_roundOf_28 : decode cX6_roundOf 28 = .ok (.getfield 17, 3) := by decide +kernel
theorem dX6_roundOf_31 : decode cX6_roundOf 31 = .ok (.iload_n 3, 1) := by decide +kernel
theorem dX6_roundOf_32 : decode cX6_roundOf 32 = .ok (.iaload, 1) := by decide +kernel
theorem dX6_roundOf_33 : decode cX6_roundOf 33 = .ok (.if_icmp .eq 51, 3) := by decide +kernel
theorem dX6_roundOf_36 : decode cX6_roundOf 36 = .ok (.aload_n 0, 1) := by decide +kernel
theorem dX6_roundOf_37 : decode cX6_roundOf 37 = .ok (.getfield 17, 3) := by decide +kernel
theorem dX6_roundOf_40 : decode cX6_roundOf 40 = .ok (.iload 4, 2) := by decide +kernel
theorem dX6_roundOf_42 : decode cX6_roundOf 42 = .ok (.iaload, 1) := by decide +kernel
theorem dX6_roundOf_43 : decode cX6_roundOf 43 = .ok (.aload_n 0, 1) := by decide +kernel
theorem dX6_roundOf_44 : decode cX6_roundOf 44 = .ok (.getfield 20, 3) := by decide +kernel
theorem dX6_roundOf_47 : decode cX6_roundOf 47 = .ok (.iload_n 3, 1) := by decide +kernel
theorem dX6_roundOf_48 : decode cX6_roundOf 48 = .ok (.iaload, 1) := by decide +kernel
theorem dX6_roundOf_49 : decode cX6_roundOf 49 = .ok (.if_icmp .eq 35, 3) := by decide +kernel
theorem dX6_roundOf_52 : decode cX6_roundOf 52 = .ok (.aload_n 0, 1) := by decide +kernel
theorem dX6_roundOf_53 : decode cX6_roundOf 53 = .ok (.getfield 20, 3) := by decide +kernel
theorem dX6_roundOf_56 : decode cX6_roundOf 56 = .ok (.iload 4, 2) := by decide +kernel
theorem dX6_roundOf_58 : decode cX6_roundOf 58 = .ok (.iaload, 1) := by decide +kernel
theorem dX6_roundOf_59 : decode cX6_roundOf 59 = .ok (.aload_n 0, 1) := by decide +kernel
theorem dX6_roundOf_60 : decode cX6_roundOf 60 = .ok (.getfield 17, 3) := by decide +kernel
theorem dX6_roundOf_63 : decode cX6_roundOf 63 = .ok (.iload_n 3, 1) := by decide +kernel
theorem dX6_roundOf_64 : decode cX6_roundOf 64 = .ok (.iaload, 1) := by decide +kernel
theorem dX6_roundOf_65 : decode cX6_roundOf 65 = .ok (.if_icmp .eq 19, 3) := by decide +kernel
theorem dX6_roundOf_68 : decode cX6_roundOf 68 = .ok (.aload_n 0, 1) := by decide +kernel
theorem dX6_roundOf_69 : decode cX6_roundOf 69 = .ok (.getfield 20, 3) := by decide +kernel
theorem dX6_roundOf_72 : decode cX6_roundOf 72 = .ok (.iload 4, 2) := by decide +kernel
theorem dX6_roundOf_74 : decode cX6_roundOf 74 = .ok (.iaload, 1) := by decide +kernel
theorem dX6_roundOf_75 : decode cX6_roundOf 75 = .ok (.aload_n 0, 1) := by decide +kernel
theorem dX6_roundOf_76 : decode cX6_roundOf 76 = .ok (.getfield 20, 3) := by decide +kernel
theorem dX6_roundOf_79 : decode cX6_roundOf 79 = .ok (.iload_n 3, 1) := by decide +kernel
theorem dX6_roundOf_80 : decode cX6_roundOf 80 = .ok (.iaload, 1) := by decide +kernel
theorem dX6_roundOf_81 : decode cX6_roundOf 81 = .ok (.if_icmp .ne 7, 3) := by decide +kernel
theorem dX6_roundOf_84 : decode cX6_roundOf 84 = .ok (.iconst 1, 1) := by decide +kernel
theorem dX6_roundOf_85 : decode cX6_roundOf 85 = .ok (.goto 4, 3) := by decide +kernel
theorem dX6_roundOf_88 : decode cX6_roundOf 88 = .ok (.iconst 0, 1) := by decide +kernel
theorem dX6_roundOf_89 : decode cX6_roundOf 89 = .ok (.istore 5, 2) := by decide +kernel
theorem dX6_roundOf_91 : decode cX6_roundOf 91 = .ok (.iload 5, 2) := by decide +kernel
theorem dX6_roundOf_93 : decode cX6_roundOf 93 = .ok (.ifCond .eq 22, 3) := by decide +kernel
theorem dX6_roundOf_96 : decode cX6_roundOf 96 = .ok (.aload_n 0, 1) := by decide +kernel
theorem dX6_roundOf_97 : decode cX6_roundOf 97 = .ok (.getfield 58, 3) := by decide +kernel
theorem dX6_roundOf_100 : decode cX6_roundOf 100 = .ok (.iload 4, 2) := by decide +kernel
theorem dX6_roundOf_102 : decode cX6_roundOf 102 = .ok (.iaload, 1) := by decide +kernel
theorem dX6_roundOf_103 : decode cX6_roundOf 103 = .ok (.iload_n 2, 1) := by decide +kernel
theorem dX6_roundOf_104 : decode cX6_roundOf 104 = .ok (.if_icmp .le 11, 3) := by decide +kernel
theorem dX6_roundOf_107 : decode cX6_roundOf 107 = .ok (.aload_n 0, 1) := by decide +kernel
theorem dX6_roundOf_108 : decode cX6_roundOf 108 = .ok (.getfield 58, 3) := by decide +kernel
theorem dX6_roundOf_111 : decode cX6_roundOf 111 = .ok (.iload 4, 2) := by decide +kernel
theorem dX6_roundOf_113 : decode cX6_roundOf 113 = .ok (.iaload, 1) := by decide +kernel
theorem dX6_roundOf_114 : decode cX6_roundOf 114 = .ok (.istore_n 2, 1) := by decide +kernel
theorem dX6_roundOf_115 : decode cX6_roundOf 115 = .ok (.iinc 4 1, 3) := by decide +kernel
theorem dX6_roundOf_118 : decode cX6_roundOf 118 = .ok (.goto (-104), 3) := by decide +kernel
theorem dX6_roundOf_121 : decode cX6_roundOf 121 = .ok (.aload_n 0, 1) := by decide +kernel
theorem dX6_roundOf_122 : decode cX6_roundOf 122 = .ok (.getfield 58, 3) := by decide +kernel
theorem dX6_roundOf_125 : decode cX6_roundOf 125 = .ok (.iload_n 3, 1) := by decide +kernel
theorem dX6_roundOf_126 : decode cX6_roundOf 126 = .ok (.iload_n 2, 1) := by decide +kernel
theorem dX6_roundOf_127 : decode cX6_roundOf 127 = .ok (.iconst 1, 1) := by decide +kernel
theorem dX6_roundOf_128 : decode cX6_roundOf 128 = .ok (.iadd, 1) := by decide +kernel
theorem dX6_roundOf_129 : decode cX6_roundOf 129 = .ok (.iastore, 1) := by decide +kernel
theorem dX6_roundOf_130 : decode cX6_roundOf 130 = .ok (.iinc 3 1, 3) := by decide +kernel
theorem dX6_roundOf_133 : decode cX6_roundOf 133 = .ok (.goto (-129), 3) := by decide +kernel
theorem dX6_roundOf_136 : decode cX6_roundOf 136 = .ok (.iload_n 2, 1) := by decide +kernel
theorem dX6_roundOf_137 : decode cX6_roundOf 137 = .ok (.iconst 1, 1) := by decide +kernel
theorem dX6_roundOf_138 : decode cX6_roundOf 138 = .ok (.iadd, 1) := by decide +kernel
theorem dX6_roundOf_139 : decode cX6_roundOf 139 = .ok (.ireturn, 1) := by decide +kernel
set_option maxRecDepth 20000 in
theorem ggX6_of_X6_isComparer : GoodIn wsX6_of wsX6_isComparer := goodIn_r _ [9, 10, 11, 12, 8, 13, 24, 25, 26, 27, 28, 29, 30, 31, 32, 33, 34, 35, 36, 37, 38, 39, 40, 41, 42, 43, 44, 45, 46, 47, 48] (by decide +kernel) (by decide +kernel)
set_option maxRecDepth 20000 in
theorem gX6_of_X6_isComparer : GoodIn wsX6_of (wsV RX6 111 RX6 yX6_isComparer wsX6_isComparer) := goodIn_app (goodIn_of _ (by decide +kernel)) ggX6_of_X6_isComparer
set_option maxRecDepth 20000 in
theorem ggX6_of_X6_in : GoodIn wsX6_of wsX6_in := goodIn_r _ [13] (by decide +kernel) (by decide +kernel)
set_option maxRecDepth 20000 in
theorem gX6_of_X6_in : GoodIn wsX6_of (va_wsS RX6 82 yX6_in wsX6_in) := goodIn_app (goodIn_of _ (by decide +kernel)) ggX6_of_X6_in
set_option maxRecDepth 20000 in
theorem ggX6_of_X6_found : GoodIn wsX6_of wsX6_found := goodIn_r _ [17, 18, 24, 25, 26, 27, 28, 29, 30, 31, 32, 33, 34, 35, 36, 37, 38, 39, 40, 41, 42, 43, 44, 45, 46, 47, 48] (by decide +kernel) (by decide +kernel)
set_option maxRecDepth 20000 in
theorem gX6_of_X6_found : GoodIn wsX6_of (wsV RX6 93 RX6 yX6_found wsX6_found) := goodIn_app (goodIn_of _ (by decide +kernel)) ggX6_of_X6_found
set_option maxRecDepth 20000 in
theorem ggX6_of_X6_roundOf : GoodIn wsX6_of wsX6_roundOf := goodIn_r _ [22, 2, 3, 23, 24, 25, 26, 27, 28, 29, 30, 31, 32, 33, 34, 35, 36, 37, 38, 39, 40, 41, 42, 43, 44, 45, 46, 47, 48] (by decide +kernel) (by decide +kernel)
set_option maxRecDepth 20000 in
theorem gX6_of_X6_roundOf : GoodIn wsX6_of (wsV RX6 117 RX6 yX6_roundOf wsX6_roundOf) := goodIn_app (goodIn_of _ (by decide +kernel)) ggX6_of_X6_roundOf
theorem dX6_of_0 : decode cX6_of 0 = .ok (.aload_n 0, 1) := by decide +kernel
theorem dX6_of_1 : decode cX6_of 1 = .ok (.iload_n 1, 1) := by decide +kernel
theorem dX6_of_2 : decode cX6_of 2 = .ok (.invokevirtual 111, 3) := by decide +kernel
theorem dX6_of_5 : decode cX6_of 5 = .ok (.ifCond .eq 12, 3) := by decide +kernel
theorem dX6_of_8 : decode cX6_of 8 = .ok (.iload_n 2, 1) := by decide +kernel
theorem dX6_of_9 : decode cX6_of 9 = .ok (.iconst 0, 1) := by decide +kernel
theorem dX6_of_10 : decode cX6_of 10 = .ok (.iconst 4, 1) := by decide +kernel
theorem dX6_of_11 : decode cX6_of 11 = .ok (.invokestatic 82, 3) := by decide +kernel
theorem dX6_of_14 : decode cX6_of 14 = .ok (.ifCond .ne 9, 3) := by decide +kernel
theorem dX6_of_17 : decode cX6_of 17 = .ok (.aload_n 0, 1) := by decide +kernel
theorem dX6_of_18 : decode cX6_of 18 = .ok (.iconst (-1), 1) := by decide +kernel
theorem dX6_of_19 : decode cX6_of 19 = .ok (.invokevirtual 93, 3) := by decide +kernel
theorem dX6_of_22 : decode cX6_of 22 = .ok (.ireturn, 1) := by decide +kernel
theorem dX6_of_23 : decode cX6_of 23 = .ok (.iload_n 2, 1) := by decide +kernel
theorem dX6_of_24 : decode cX6_of 24 = .ok (.tableswitch 59 0 3 #[32, 39, 46, 53], 32) := by decide +kernel
theorem dX6_of_56 : decode cX6_of 56 = .ok (.aload_n 0, 1) := by decide +kernel
theorem dX6_of_57 : decode cX6_of 57 = .ok (.getfield 13, 3) := by decide +kernel
theorem dX6_of_60 : decode cX6_of 60 = .ok (.iload_n 1, 1) := by decide +kernel
theorem dX6_of_61 : decode cX6_of 61 = .ok (.iaload, 1) := by decide +kernel
theorem dX6_of_62 : decode cX6_of 62 = .ok (.ireturn, 1) := by decide +kernel
theorem dX6_of_63 : decode cX6_of 63 = .ok (.aload_n 0, 1) := by decide +kernel
theorem dX6_of_64 : decode cX6_of 64 = .ok (.getfield 17, 3) := by decide +kernel
theorem dX6_of_67 : decode cX6_of 67 = .ok (.iload_n 1, 1) := by decide +kernel
theorem dX6_of_68 : decode cX6_of 68 = .ok (.iaload, 1) := by decide +kernel
theorem dX6_of_69 : decode cX6_of 69 = .ok (.ireturn, 1) := by decide +kernel
theorem dX6_of_70 : decode cX6_of 70 = .ok (.aload_n 0, 1) := by decide +kernel
theorem dX6_of_71 : decode cX6_of 71 = .ok (.getfield 20, 3) := by decide +kernel
theorem dX6_of_74 : decode cX6_of 74 = .ok (.iload_n 1, 1) := by decide +kernel
theorem dX6_of_75 : decode cX6_of 75 = .ok (.iaload, 1) := by decide +kernel
theorem dX6_of_76 : decode cX6_of 76 = .ok (.ireturn, 1) := by decide +kernel
theorem dX6_of_77 : decode cX6_of 77 = .ok (.aload_n 0, 1) := by decide +kernel
theorem dX6_of_78 : decode cX6_of 78 = .ok (.iload_n 1, 1) := by decide +kernel
theorem dX6_of_79 : decode cX6_of 79 = .ok (.invokevirtual 117, 3) := by decide +kernel
theorem dX6_of_82 : decode cX6_of 82 = .ok (.ireturn, 1) := by decide +kernel
theorem dX6_of_83 : decode cX6_of 83 = .ok (.aload_n 0, 1) := by decide +kernel
theorem dX6_of_84 : decode cX6_of 84 = .ok (.getfield 13, 3) := by decide +kernel
theorem dX6_of_87 : decode cX6_of 87 = .ok (.iload_n 1, 1) := by decide +kernel
theorem dX6_of_88 : decode cX6_of 88 = .ok (.iaload, 1) := by decide +kernel
theorem dX6_of_89 : decode cX6_of 89 = .ok (.iconst 4, 1) := by decide +kernel
theorem dX6_of_90 : decode cX6_of 90 = .ok (.if_icmp .ne 16, 3) := by decide +kernel
theorem dX6_of_93 : decode cX6_of 93 = .ok (.aload_n 0, 1) := by decide +kernel
theorem dX6_of_94 : decode cX6_of 94 = .ok (.getfield 23, 3) := by decide +kernel
theorem dX6_of_97 : decode cX6_of 97 = .ok (.iload_n 1, 1) := by decide +kernel
theorem dX6_of_98 : decode cX6_of 98 = .ok (.baload, 1) := by decide +kernel
theorem dX6_of_99 : decode cX6_of 99 = .ok (.ifCond .eq 7, 3) := by decide +kernel
theorem dX6_of_102 : decode cX6_of 102 = .ok (.iconst 1, 1) := by decide +kernel
theorem dX6_of_103 : decode cX6_of 103 = .ok (.goto 4, 3) := by decide +kernel
theorem dX6_of_106 : decode cX6_of 106 = .ok (.iconst 0, 1) := by decide +kernel
theorem dX6_of_107 : decode cX6_of 107 = .ok (.ireturn, 1) := by decide +kernel
set_option maxRecDepth 20000 in
theorem ggX6_rounds_X6_roundOf : GoodIn wsX6_rounds wsX6_roundOf := goodIn_r _ [6, 7, 8, 9, 10, 11, 12, 13, 14, 15, 16, 17, 18, 19, 20, 21, 22, 23, 24, 25, 26, 27, 28, 29, 30, 31, 32, 33, 34] (by decide +kernel) (by decide +kernel)
set_option maxRecDepth 20000 in
theorem gX6_rounds_X6_roundOf : GoodIn wsX6_rounds (wsV RX6 117 RX6 yX6_roundOf wsX6_roundOf) := goodIn_app (goodIn_of _ (by decide +kernel)) ggX6_rounds_X6_roundOf
theorem dX6_rounds_0 : decode cX6_rounds 0 = .ok (.iconst 0, 1) := by decide +kernel
theorem dX6_rounds_1 : decode cX6_rounds 1 = .ok (.istore_n 1, 1) := by decide +kernel
theorem dX6_rounds_2 : decode cX6_rounds 2 = .ok (.iconst 0, 1) := by decide +kernel
theorem dX6_rounds_3 : decode cX6_rounds 3 = .ok (.istore_n 2, 1) := by decide +kernel
theorem dX6_rounds_4 : decode cX6_rounds 4 = .ok (.iload_n 2, 1) := by decide +kernel
theorem dX6_rounds_5 : decode cX6_rounds 5 = .ok (.aload_n 0, 1) := by decide +kernel
theorem dX6_rounds_6 : decode cX6_rounds 6 = .ok (.getfield 79, 3) := by decide +kernel
theorem dX6_rounds_9 : decode cX6_rounds 9 = .ok (.if_icmp .ge 26, 3) := by decide +kernel
theorem dX6_rounds_12 : decode cX6_rounds 12 = .ok (.aload_n 0, 1) := by decide +kernel
theorem dX6_rounds_13 : decode cX6_rounds 13 = .ok (.iload_n 2, 1) := by decide +kernel
theorem dX6_rounds_14 : decode cX6_rounds 14 = .ok (.invokevirtual 117, 3) := by decide +kernel
theorem dX6_rounds_17 : decode cX6_rounds 17 = .ok (.istore_n 3, 1) := by decide +kernel
theorem dX6_rounds_18 : decode cX6_rounds 18 = .ok (.iload_n 3, 1) := by decide +kernel
theorem dX6_rounds_19 : decode cX6_rounds 19 = .ok (.iload_n 1, 1) := by decide +kernel
theorem dX6_rounds_20 : decode cX6_rounds 20 = .ok (.if_icmp .le 7, 3) := by decide +kernel
theorem dX6_rounds_23 : decode cX6_rounds 23 = .ok (.iload_n 3, 1) := by decide +kernel
theorem dX6_rounds_24 : decode cX6_rounds 24 = .ok (.goto 4, 3) := by decide +kernel
theorem dX6_rounds_27 : decode cX6_rounds 27 = .ok (.iload_n 1, 1) := by decide +kernel
theorem dX6_rounds_28 : decode cX6_rounds 28 = .ok (.istore_n 1, 1) := by decide +kernel
theorem dX6_rounds_29 : decode cX6_rounds 29 = .ok (.iinc 2 1, 3) := by decide +kernel
theorem dX6_rounds_32 : decode cX6_rounds 32 = .ok (.goto (-28), 3) := by decide +kernel
theorem dX6_rounds_35 : decode cX6_rounds 35 = .ok (.iload_n 1, 1) := by decide +kernel
theorem dX6_rounds_36 : decode cX6_rounds 36 = .ok (.ireturn, 1) := by decide +kernel
set_option maxRecDepth 20000 in
theorem ggX6_isCrate_X6_in : GoodIn wsX6_isCrate wsX6_in := goodIn_r _ [4] (by decide +kernel) (by decide +kernel)
set_option maxRecDepth 20000 in
theorem gX6_isCrate_X6_in : GoodIn wsX6_isCrate (va_wsS RX6 82 yX6_in wsX6_in) := goodIn_app (goodIn_of _ (by decide +kernel)) ggX6_isCrate_X6_in
theorem dX6_isCrate_0 : decode cX6_isCrate 0 = .ok (.iload_n 0, 1) := by decide +kernel
theorem dX6_isCrate_1 : decode cX6_isCrate 1 = .ok (.iconst 0, 1) := by decide +kernel
theorem dX6_isCrate_2 : decode cX6_isCrate 2 = .ok (.iconst 5, 1) := by decide +kernel
theorem dX6_isCrate_3 : decode cX6_isCrate 3 = .ok (.invokestatic 82, 3) := by decide +kernel
theorem dX6_isCrate_6 : decode cX6_isCrate 6 = .ok (.ireturn, 1) := by decide +kernel
set_option maxRecDepth 20000 in
theorem ggX6_crate_X6_isCrate : GoodIn wsX6_crate wsX6_isCrate := goodIn_r _ [7, 8, 9, 6, 10] (by decide +kernel) (by decide +kernel)
set_option maxRecDepth 20000 in
theorem gX6_crate_X6_isCrate : GoodIn wsX6_crate (va_wsS RX6 120 yX6_isCrate wsX6_isCrate) := goodIn_app (goodIn_of _ (by decide +kernel)) ggX6_crate_X6_isCrate
set_option maxRecDepth 20000 in
theorem ggX6_crate_X6_in : GoodIn wsX6_crate wsX6_in := goodIn_r _ [10] (by decide +kernel) (by decide +kernel)
set_option maxRecDepth 20000 in
theorem gX6_crate_X6_in : GoodIn wsX6_crate (va_wsS RX6 82 yX6_in wsX6_in) := goodIn_app (goodIn_of _ (by decide +kernel)) ggX6_crate_X6_in
set_option maxRecDepth 20000 in
theorem ggX6_crate_X6_found : GoodIn wsX6_crate wsX6_found := goodIn_r _ [14, 15, 16, 17, 18, 19, 20, 21, 22, 23, 24, 25, 26, 27, 28, 29, 30, 31, 32, 33, 34, 35, 36, 37, 38, 39, 40] (by decide +kernel) (by decide +kernel)
set_option maxRecDepth 20000 in
theorem gX6_crate_X6_found : GoodIn wsX6_crate (wsV RX6 93 RX6 yX6_found wsX6_found) := goodIn_app (goodIn_of _ (by decide +kernel)) ggX6_crate_X6_found
theorem dX6_crate_0 : decode cX6_crate 0 = .ok (.iload_n 1, 1) := by decide +kernel
theorem dX6_crate_1 : decode cX6_crate 1 = .ok (.invokestatic 120, 3) := by decide +kernel
theorem dX6_crate_4 : decode cX6_crate 4 = .ok (.ifCond .eq 13, 3) := by decide +kernel
theorem dX6_crate_7 : decode cX6_crate 7 = .ok (.iload_n 2, 1) := by decide +kernel
theorem dX6_crate_8 : decode cX6_crate 8 = .ok (.iconst 0, 1) := by decide +kernel
theorem dX6_crate_9 : decode cX6_crate 9 = .ok (.bipush 7, 2) := by decide +kernel
theorem dX6_crate_11 : decode cX6_crate 11 = .ok (.invokestatic 82, 3) := by decide +kernel
theorem dX6_crate_14 : decode cX6_crate 14 = .ok (.ifCond .ne 9, 3) := by decide +kernel
theorem dX6_crate_17 : decode cX6_crate 17 = .ok (.aload_n 0, 1) := by decide +kernel
theorem dX6_crate_18 : decode cX6_crate 18 = .ok (.iconst (-1), 1) := by decide +kernel
theorem dX6_crate_19 : decode cX6_crate 19 = .ok (.invokevirtual 93, 3) := by decide +kernel
theorem dX6_crate_22 : decode cX6_crate 22 = .ok (.ireturn, 1) := by decide +kernel
theorem dX6_crate_23 : decode cX6_crate 23 = .ok (.iload_n 3, 1) := by decide +kernel
theorem dX6_crate_24 : decode cX6_crate 24 = .ok (.ifCond .ge 10, 3) := by decide +kernel
theorem dX6_crate_27 : decode cX6_crate 27 = .ok (.aload_n 0, 1) := by decide +kernel
theorem dX6_crate_28 : decode cX6_crate 28 = .ok (.bipush (-3), 2) := by decide +kernel
theorem dX6_crate_30 : decode cX6_crate 30 = .ok (.invokevirtual 93, 3) := by decide +kernel
theorem dX6_crate_33 : decode cX6_crate 33 = .ok (.ireturn, 1) := by decide +kernel
theorem dX6_crate_34 : decode cX6_crate 34 = .ok (.iload_n 3, 1) := by decide +kernel
theorem dX6_crate_35 : decode cX6_crate 35 = .ok (.bipush 12, 2) := by decide +kernel
theorem dX6_crate_37 : decode cX6_crate 37 = .ok (.if_icmp .le 9, 3) := by decide +kernel
theorem dX6_crate_40 : decode cX6_crate 40 = .ok (.aload_n 0, 1) := by decide +kernel
theorem dX6_crate_41 : decode cX6_crate 41 = .ok (.iconst (-1), 1) := by decide +kernel
theorem dX6_crate_42 : decode cX6_crate 42 = .ok (.invokevirtual 93, 3) := by decide +kernel
theorem dX6_crate_45 : decode cX6_crate 45 = .ok (.ireturn, 1) := by decide +kernel
theorem dX6_crate_46 : decode cX6_crate 46 = .ok (.aload_n 0, 1) := by decide +kernel
theorem dX6_crate_47 : decode cX6_crate 47 = .ok (.getfield 45, 3) := by decide +kernel
theorem dX6_crate_50 : decode cX6_crate 50 = .ok (.iload_n 1, 1) := by decide +kernel
theorem dX6_crate_51 : decode cX6_crate 51 = .ok (.iload_n 2, 1) := by decide +kernel
theorem dX6_crate_52 : decode cX6_crate 52 = .ok (.iastore, 1) := by decide +kernel
theorem dX6_crate_53 : decode cX6_crate 53 = .ok (.aload_n 0, 1) := by decide +kernel
theorem dX6_crate_54 : decode cX6_crate 54 = .ok (.getfield 48, 3) := by decide +kernel
theorem dX6_crate_57 : decode cX6_crate 57 = .ok (.iload_n 1, 1) := by decide +kernel
theorem dX6_crate_58 : decode cX6_crate 58 = .ok (.iload_n 2, 1) := by decide +kernel
theorem dX6_crate_59 : decode cX6_crate 59 = .ok (.ifCond .ne 7, 3) := by decide +kernel
theorem dX6_crate_62 : decode cX6_crate 62 = .ok (.iconst 0, 1) := by decide +kernel
theorem dX6_crate_63 : decode cX6_crate 63 = .ok (.goto 4, 3) := by decide +kernel
theorem dX6_crate_66 : decode cX6_crate 66 = .ok (.iload_n 3, 1) := by decide +kernel
theorem dX6_crate_67 : decode cX6_crate 67 = .ok (.iastore, 1) := by decide +kernel
theorem dX6_crate_68 : decode cX6_crate 68 = .ok (.iconst 0, 1) := by decide +kernel
theorem dX6_crate_69 : decode cX6_crate 69 = .ok (.istore 4, 2) := by decide +kernel
theorem dX6_crate_71 : decode cX6_crate 71 = .ok (.iload 4, 2) := by decide +kernel
theorem dX6_crate_73 : decode cX6_crate 73 = .ok (.bipush 12, 2) := by decide +kernel
theorem dX6_crate_75 : decode cX6_crate 75 = .ok (.if_icmp .ge 22, 3) := by decide +kernel
theorem dX6_crate_78 : decode cX6_crate 78 = .ok (.aload_n 0, 1) := by decide +kernel
theorem dX6_crate_79 : decode cX6_crate 79 = .ok (.getfield 51, 3) := by decide +kernel
theorem dX6_crate_82 : decode cX6_crate 82 = .ok (.bipush 12, 2) := by decide +kernel
theorem dX6_crate_84 : decode cX6_crate 84 = .ok (.iload_n 1, 1) := by decide +kernel
theorem dX6_crate_85 : decode cX6_crate 85 = .ok (.imul, 1) := by decide +kernel
theorem dX6_crate_86 : decode cX6_crate 86 = .ok (.iload 4, 2) := by decide +kernel
theorem dX6_crate_88 : decode cX6_crate 88 = .ok (.iadd, 1) := by decide +kernel
theorem dX6_crate_89 : decode cX6_crate 89 = .ok (.lconst 0, 1) := by decide +kernel
theorem dX6_crate_90 : decode cX6_crate 90 = .ok (.lastore, 1) := by decide +kernel
theorem dX6_crate_91 : decode cX6_crate 91 = .ok (.iinc 4 1, 3) := by decide +kernel
theorem dX6_crate_94 : decode cX6_crate 94 = .ok (.goto (-23), 3) := by decide +kernel
theorem dX6_crate_97 : decode cX6_crate 97 = .ok (.aload_n 0, 1) := by decide +kernel
theorem dX6_crate_98 : decode cX6_crate 98 = .ok (.getfield 48, 3) := by decide +kernel
theorem dX6_crate_101 : decode cX6_crate 101 = .ok (.iload_n 1, 1) := by decide +kernel
theorem dX6_crate_102 : decode cX6_crate 102 = .ok (.iaload, 1) := by decide +kernel
theorem dX6_crate_103 : decode cX6_crate 103 = .ok (.ireturn, 1) := by decide +kernel
set_option maxRecDepth 20000 in
theorem ggX6_lacks_X6_isCrate : GoodIn wsX6_lacks wsX6_isCrate := goodIn_r _ [6, 7, 8, 5, 9] (by decide +kernel) (by decide +kernel)
set_option maxRecDepth 20000 in
theorem gX6_lacks_X6_isCrate : GoodIn wsX6_lacks (va_wsS RX6 120 yX6_isCrate wsX6_isCrate) := goodIn_app (goodIn_of _ (by decide +kernel)) ggX6_lacks_X6_isCrate
set_option maxRecDepth 20000 in
theorem ggX6_lacks_X6_in : GoodIn wsX6_lacks wsX6_in := goodIn_r _ [9] (by decide +kernel) (by decide +kernel)
set_option maxRecDepth 20000 in
theorem gX6_lacks_X6_in : GoodIn wsX6_lacks (va_wsS RX6 82 yX6_in wsX6_in) := goodIn_app (goodIn_of _ (by decide +kernel)) ggX6_lacks_X6_in
theorem dX6_lacks_0 : decode cX6_lacks 0 = .ok (.iload_n 1, 1) := by decide +kernel
theorem dX6_lacks_1 : decode cX6_lacks 1 = .ok (.invokestatic 120, 3) := by decide +kernel
theorem dX6_lacks_4 : decode cX6_lacks 4 = .ok (.ifCond .ne 7, 3) := by decide +kernel
theorem dX6_lacks_7 : decode cX6_lacks 7 = .ok (.iconst (-1), 1) := by decide +kernel
theorem dX6_lacks_8 : decode cX6_lacks 8 = .ok (.goto 38, 3) := by decide +kernel
theorem dX6_lacks_11 : decode cX6_lacks 11 = .ok (.aload_n 0, 1) := by decide +kernel
theorem dX6_lacks_12 : decode cX6_lacks 12 = .ok (.getfield 45, 3) := by decide +kernel
theorem dX6_lacks_15 : decode cX6_lacks 15 = .ok (.iload_n 1, 1) := by decide +kernel
theorem dX6_lacks_16 : decode cX6_lacks 16 = .ok (.iaload, 1) := by decide +kernel
theorem dX6_lacks_17 : decode cX6_lacks 17 = .ok (.ifCond .ne 8, 3) := by decide +kernel
theorem dX6_lacks_20 : decode cX6_lacks 20 = .ok (.bipush (-2), 2) := by decide +kernel
theorem dX6_lacks_22 : decode cX6_lacks 22 = .ok (.goto 24, 3) := by decide +kernel
theorem dX6_lacks_25 : decode cX6_lacks 25 = .ok (.iload_n 2, 1) := by decide +kernel
theorem dX6_lacks_26 : decode cX6_lacks 26 = .ok (.iconst 0, 1) := by decide +kernel
theorem dX6_lacks_27 : decode cX6_lacks 27 = .ok (.aload_n 0, 1) := by decide +kernel
theorem dX6_lacks_28 : decode cX6_lacks 28 = .ok (.getfield 48, 3) := by decide +kernel
theorem dX6_lacks_31 : decode cX6_lacks 31 = .ok (.iload_n 1, 1) := by decide +kernel
theorem dX6_lacks_32 : decode cX6_lacks 32 = .ok (.iaload, 1) := by decide +kernel
theorem dX6_lacks_33 : decode cX6_lacks 33 = .ok (.iconst 1, 1) := by decide +kernel
theorem dX6_lacks_34 : decode cX6_lacks 34 = .ok (.isub, 1) := by decide +kernel
theorem dX6_lacks_35 : decode cX6_lacks 35 = .ok (.invokestatic 82, 3) := by decide +kernel
theorem dX6_lacks_38 : decode cX6_lacks 38 = .ok (.ifCond .eq 7, 3) := by decide +kernel
theorem dX6_lacks_41 : decode cX6_lacks 41 = .ok (.iconst 0, 1) := by decide +kernel
theorem dX6_lacks_42 : decode cX6_lacks 42 = .ok (.goto 4, 3) := by decide +kernel
theorem dX6_lacks_45 : decode cX6_lacks 45 = .ok (.iconst (-1), 1) := by decide +kernel
theorem dX6_lacks_46 : decode cX6_lacks 46 = .ok (.ireturn, 1) := by decide +kernel
theorem dX6_narrow_0 : decode cX6_narrow 0 = .ok (.iload_n 0, 1) := by decide +kernel
theorem dX6_narrow_1 : decode cX6_narrow 1 = .ok (.tableswitch 81 1 6 #[39, 44, 50, 55, 59, 61], 39) := by decide +kernel
theorem dX6_narrow_40 : decode cX6_narrow 40 = .ok (.lload_n 1, 1) := by decide +kernel
theorem dX6_narrow_41 : decode cX6_narrow 41 = .ok (.l2i, 1) := by decide +kernel
theorem dX6_narrow_42 : decode cX6_narrow 42 = .ok (.i2b, 1) := by decide +kernel
theorem dX6_narrow_43 : decode cX6_narrow 43 = .ok (.i2l, 1) := by decide +kernel
theorem dX6_narrow_44 : decode cX6_narrow 44 = .ok (.lreturn, 1) := by decide +kernel
theorem dX6_narrow_45 : decode cX6_narrow 45 = .ok (.lload_n 1, 1) := by decide +kernel
theorem dX6_narrow_46 : decode cX6_narrow 46 = .ok (.ldc2_w 123, 3) := by decide +kernel
theorem dX6_narrow_49 : decode cX6_narrow 49 = .ok (.land, 1) := by decide +kernel
theorem dX6_narrow_50 : decode cX6_narrow 50 = .ok (.lreturn, 1) := by decide +kernel
theorem dX6_narrow_51 : decode cX6_narrow 51 = .ok (.lload_n 1, 1) := by decide +kernel
theorem dX6_narrow_52 : decode cX6_narrow 52 = .ok (.l2i, 1) := by decide +kernel
theorem dX6_narrow_53 : decode cX6_narrow 53 = .ok (.i2s, 1) := by decide +kernel
theorem dX6_narrow_54 : decode cX6_narrow 54 = .ok (.i2l, 1) := by decide +kernel
theorem dX6_narrow_55 : decode cX6_narrow 55 = .ok (.lreturn, 1) := by decide +kernel
theorem dX6_narrow_56 : decode cX6_narrow 56 = .ok (.lload_n 1, 1) := by decide +kernel
theorem dX6_narrow_57 : decode cX6_narrow 57 = .ok (.l2i, 1) := by decide +kernel
theorem dX6_narrow_58 : decode cX6_narrow 58 = .ok (.i2l, 1) := by decide +kernel
theorem dX6_narrow_59 : decode cX6_narrow 59 = .ok (.lreturn, 1) := by decide +kernel
theorem dX6_narrow_60 : decode cX6_narrow 60 = .ok (.lload_n 1, 1) := by decide +kernel
theorem dX6_narrow_61 : decode cX6_narrow 61 = .ok (.lreturn, 1) := by decide +kernel
theorem dX6_narrow_62 : decode cX6_narrow 62 = .ok (.lload_n 1, 1) := by decide +kernel
theorem dX6_narrow_63 : decode cX6_narrow 63 = .ok (.l2i, 1) := by decide +kernel
theorem dX6_narrow_64 : decode cX6_narrow 64 = .ok (.ldc 125, 2) := by decide +kernel
theorem dX6_narrow_66 : decode cX6_narrow 66 = .ok (.iand, 1) := by decide +kernel
theorem dX6_narrow_67 : decode cX6_narrow 67 = .ok (.ldc 126, 2) := by decide +kernel
theorem dX6_narrow_69 : decode cX6_narrow 69 = .ok (.if_icmp .le 9, 3) := by decide +kernel
theorem dX6_narrow_72 : decode cX6_narrow 72 = .ok (.ldc2_w 127, 3) := by decide +kernel
theorem dX6_narrow_75 : decode cX6_narrow 75 = .ok (.goto 6, 3) := by decide +kernel
theorem dX6_narrow_78 : decode cX6_narrow 78 = .ok (.lload_n 1, 1) := by decide +kernel
theorem dX6_narrow_79 : decode cX6_narrow 79 = .ok (.l2i, 1) := by decide +kernel
theorem dX6_narrow_80 : decode cX6_narrow 80 = .ok (.i2l, 1) := by decide +kernel
theorem dX6_narrow_81 : decode cX6_narrow 81 = .ok (.lreturn, 1) := by decide +kernel
theorem dX6_narrow_82 : decode cX6_narrow 82 = .ok (.lload_n 1, 1) := by decide +kernel
theorem dX6_narrow_83 : decode cX6_narrow 83 = .ok (.ldc2_w 129, 3) := by decide +kernel
theorem dX6_narrow_86 : decode cX6_narrow 86 = .ok (.land, 1) := by decide +kernel
theorem dX6_narrow_87 : decode cX6_narrow 87 = .ok (.ldc2_w 131, 3) := by decide +kernel
theorem dX6_narrow_90 : decode cX6_narrow 90 = .ok (.lcmp, 1) := by decide +kernel
theorem dX6_narrow_91 : decode cX6_narrow 91 = .ok (.ifCond .le 9, 3) := by decide +kernel
theorem dX6_narrow_94 : decode cX6_narrow 94 = .ok (.ldc2_w 133, 3) := by decide +kernel
theorem dX6_narrow_97 : decode cX6_narrow 97 = .ok (.goto 4, 3) := by decide +kernel
theorem dX6_narrow_100 : decode cX6_narrow 100 = .ok (.lload_n 1, 1) := by decide +kernel
theorem dX6_narrow_101 : decode cX6_narrow 101 = .ok (.lreturn, 1) := by decide +kernel
set_option maxRecDepth 20000 in
theorem ggX6_put_X6_lacks : GoodIn wsX6_put wsX6_lacks := goodIn_r _ [7, 2, 8, 9, 10, 6, 11, 12, 13, 14, 30, 31, 32, 33, 34, 35, 36, 37, 38, 39, 40, 41, 42, 43, 44, 45, 46, 47, 48, 49, 50, 51, 52, 53, 54] (by decide +kernel) (by decide +kernel)
set_option maxRecDepth 20000 in
theorem gX6_put_X6_lacks : GoodIn wsX6_put (wsV RX6 135 RX6 yX6_lacks wsX6_lacks) := goodIn_app (goodIn_of _ (by decide +kernel)) ggX6_put_X6_lacks
set_option maxRecDepth 20000 in
theorem ggX6_put_X6_found : GoodIn wsX6_put wsX6_found := goodIn_r _ [18, 19, 30, 31, 32, 33, 34, 35, 36, 37, 38, 39, 40, 41, 42, 43, 44, 45, 46, 47, 48, 49, 50, 51, 52, 53, 54] (by decide +kernel) (by decide +kernel)
set_option maxRecDepth 20000 in
theorem gX6_put_X6_found : GoodIn wsX6_put (wsV RX6 93 RX6 yX6_found wsX6_found) := goodIn_app (goodIn_of _ (by decide +kernel)) ggX6_put_X6_found
set_option maxRecDepth 20000 in
theorem ggX6_put_X6_narrow : GoodIn wsX6_put wsX6_narrow := goodIn_r _ [22, 23, 24, 25, 26, 27, 28, 29] (by decide +kernel) (by decide +kernel)
set_option maxRecDepth 20000 in
theorem gX6_put_X6_narrow : GoodIn wsX6_put (va_wsS RX6 139 yX6_narrow wsX6_narrow) := goodIn_app (goodIn_of _ (by decide +kernel)) ggX6_put_X6_narrow
theorem dX6_put_0 : decode cX6_put 0 = .ok (.aload_n 0, 1) := by decide +kernel
theorem dX6_put_1 : decode cX6_put 1 = .ok (.iload_n 1, 1) := by decide +kernel
theorem dX6_put_2 : decode cX6_put 2 = .ok (.iload_n 2, 1) := by decide +kernel
theorem dX6_put_3 : decode cX6_put 3 = .ok (.invokevirtual 135, 3) := by decide +kernel
theorem dX6_put_6 : decode cX6_put 6 = .ok (.istore 5, 2) := by decide +kernel
theorem dX6_put_8 : decode cX6_put 8 = .ok (.iload 5, 2) := by decide +kernel
theorem dX6_put_10 : decode cX6_put 10 = .ok (.ifCond .ge 10, 3) := by decide +kernel
theorem dX6_put_13 : decode cX6_put 13 = .ok (.aload_n 0, 1) := by decide +kernel
theorem dX6_put_14 : decode cX6_put 14 = .ok (.iload 5, 2) := by decide +kernel
theorem dX6_put_16 : decode cX6_put 16 = .ok (.invokevirtual 93, 3) := by decide +kernel
theorem dX6_put_19 : decode cX6_put 19 = .ok (.ireturn, 1) := by decide +kernel
theorem dX6_put_20 : decode cX6_put 20 = .ok (.aload_n 0, 1) := by decide +kernel
theorem dX6_put_21 : decode cX6_put 21 = .ok (.getfield 51, 3) := by decide +kernel
theorem dX6_put_24 : decode cX6_put 24 = .ok (.bipush 12, 2) := by decide +kernel
theorem dX6_put_26 : decode cX6_put 26 = .ok (.iload_n 1, 1) := by decide +kernel
theorem dX6_put_27 : decode cX6_put 27 = .ok (.imul, 1) := by decide +kernel
theorem dX6_put_28 : decode cX6_put 28 = .ok (.iload_n 2, 1) := by decide +kernel
theorem dX6_put_29 : decode cX6_put 29 = .ok (.iadd, 1) := by decide +kernel
theorem dX6_put_30 : decode cX6_put 30 = .ok (.aload_n 0, 1) := by decide +kernel
theorem dX6_put_31 : decode cX6_put 31 = .ok (.getfield 45, 3) := by decide +kernel
theorem dX6_put_34 : decode cX6_put 34 = .ok (.iload_n 1, 1) := by decide +kernel
theorem dX6_put_35 : decode cX6_put 35 = .ok (.iaload, 1) := by decide +kernel
theorem dX6_put_36 : decode cX6_put 36 = .ok (.lload_n 3, 1) := by decide +kernel
theorem dX6_put_37 : decode cX6_put 37 = .ok (.invokestatic 139, 3) := by decide +kernel
theorem dX6_put_40 : decode cX6_put 40 = .ok (.lastore, 1) := by decide +kernel
theorem dX6_put_41 : decode cX6_put 41 = .ok (.iconst 0, 1) := by decide +kernel
theorem dX6_put_42 : decode cX6_put 42 = .ok (.ireturn, 1) := by decide +kernel
set_option maxRecDepth 20000 in
theorem ggX6_load_X6_lacks : GoodIn wsX6_load wsX6_lacks := goodIn_r _ [8, 9, 10, 11, 12, 7, 13, 14, 15, 16, 17, 18, 19, 20, 21, 22, 23, 24, 25, 26, 27, 28, 29, 30, 31, 32, 33, 34, 35, 36, 37, 38, 39, 40, 41] (by decide +kernel) (by decide +kernel)
set_option maxRecDepth 20000 in
theorem gX6_load_X6_lacks : GoodIn wsX6_load (wsV RX6 135 RX6 yX6_lacks wsX6_lacks) := goodIn_app (goodIn_of _ (by decide +kernel)) ggX6_load_X6_lacks
theorem dX6_load_0 : decode cX6_load 0 = .ok (.aload_n 0, 1) := by decide +kernel
theorem dX6_load_1 : decode cX6_load 1 = .ok (.iload_n 1, 1) := by decide +kernel
theorem dX6_load_2 : decode cX6_load 2 = .ok (.iload_n 2, 1) := by decide +kernel
theorem dX6_load_3 : decode cX6_load 3 = .ok (.invokevirtual 135, 3) := by decide +kernel
theorem dX6_load_6 : decode cX6_load 6 = .ok (.istore_n 3, 1) := by decide +kernel
theorem dX6_load_7 : decode cX6_load 7 = .ok (.iload_n 3, 1) := by decide +kernel
theorem dX6_load_8 : decode cX6_load 8 = .ok (.ifCond .ge 17, 3) := by decide +kernel
theorem dX6_load_11 : decode cX6_load 11 = .ok (.aload_n 0, 1) := by decide +kernel
theorem dX6_load_12 : decode cX6_load 12 = .ok (.dup, 1) := by decide +kernel
theorem dX6_load_13 : decode cX6_load 13 = .ok (.getfield 76, 3) := by decide +kernel
theorem dX6_load_16 : decode cX6_load 16 = .ok (.iconst 1, 1) := by decide +kernel
theorem dX6_load_17 : decode cX6_load 17 = .ok (.iadd, 1) := by decide +kernel
theorem dX6_load_18 : decode cX6_load 18 = .ok (.putfield 76, 3) := by decide +kernel
theorem dX6_load_21 : decode cX6_load 21 = .ok (.ldc2_w 143, 3) := by decide +kernel
theorem dX6_load_24 : decode cX6_load 24 = .ok (.lreturn, 1) := by decide +kernel
theorem dX6_load_25 : decode cX6_load 25 = .ok (.aload_n 0, 1) := by decide +kernel
theorem dX6_load_26 : decode cX6_load 26 = .ok (.getfield 51, 3) := by decide +kernel
theorem dX6_load_29 : decode cX6_load 29 = .ok (.bipush 12, 2) := by decide +kernel
theorem dX6_load_31 : decode cX6_load 31 = .ok (.iload_n 1, 1) := by decide +kernel
theorem dX6_load_32 : decode cX6_load 32 = .ok (.imul, 1) := by decide +kernel
theorem dX6_load_33 : decode cX6_load 33 = .ok (.iload_n 2, 1) := by decide +kernel
theorem dX6_load_34 : decode cX6_load 34 = .ok (.iadd, 1) := by decide +kernel
theorem dX6_load_35 : decode cX6_load 35 = .ok (.laload, 1) := by decide +kernel
theorem dX6_load_36 : decode cX6_load 36 = .ok (.lreturn, 1) := by decide +kernel
set_option maxRecDepth 20000 in
theorem ggX6_copy_X6_isCrate : GoodIn wsX6_copy wsX6_isCrate := goodIn_r _ [8, 9, 10, 7, 11] (by decide +kernel) (by decide +kernel)
set_option maxRecDepth 20000 in
theorem gX6_copy_X6_isCrate : GoodIn wsX6_copy (va_wsS RX6 120 yX6_isCrate wsX6_isCrate) := goodIn_app (goodIn_of _ (by decide +kernel)) ggX6_copy_X6_isCrate
set_option maxRecDepth 20000 in
theorem ggX6_copy_X6_found : GoodIn wsX6_copy wsX6_found := goodIn_r _ [15, 16, 17, 18, 19, 20, 21, 22, 23, 24, 25, 26, 27, 28, 29, 30, 31, 32, 33, 34, 35, 36, 37, 38, 39, 40, 41] (by decide +kernel) (by decide +kernel)
set_option maxRecDepth 20000 in
theorem gX6_copy_X6_found : GoodIn wsX6_copy (wsV RX6 93 RX6 yX6_found wsX6_found) := goodIn_app (goodIn_of _ (by decide +kernel)) ggX6_copy_X6_found
theorem dX6_copy_0 : decode cX6_copy 0 = .ok (.iload_n 1, 1) := by decide +kernel
theorem dX6_copy_1 : decode cX6_copy 1 = .ok (.invokestatic 120, 3) := by decide +kernel
theorem dX6_copy_4 : decode cX6_copy 4 = .ok (.ifCond .eq 10, 3) := by decide +kernel
theorem dX6_copy_7 : decode cX6_copy 7 = .ok (.iload_n 3, 1) := by decide +kernel
theorem dX6_copy_8 : decode cX6_copy 8 = .ok (.invokestatic 120, 3) := by decide +kernel
theorem dX6_copy_11 : decode cX6_copy 11 = .ok (.ifCond .ne 9, 3) := by decide +kernel
theorem dX6_copy_14 : decode cX6_copy 14 = .ok (.aload_n 0, 1) := by decide +kernel
theorem dX6_copy_15 : decode cX6_copy 15 = .ok (.iconst (-1), 1) := by decide +kernel
theorem dX6_copy_16 : decode cX6_copy 16 = .ok (.invokevirtual 93, 3) := by decide +kernel
theorem dX6_copy_19 : decode cX6_copy 19 = .ok (.ireturn, 1) := by decide +kernel
theorem dX6_copy_20 : decode cX6_copy 20 = .ok (.aload_n 0, 1) := by decide +kernel
theorem dX6_copy_21 : decode cX6_copy 21 = .ok (.getfield 45, 3) := by decide +kernel
theorem dX6_copy_24 : decode cX6_copy 24 = .ok (.iload_n 1, 1) := by decide +kernel
theorem dX6_copy_25 : decode cX6_copy 25 = .ok (.iaload, 1) := by decide +kernel
theorem dX6_copy_26 : decode cX6_copy 26 = .ok (.ifCond .eq 12, 3) := by decide +kernel
theorem dX6_copy_29 : decode cX6_copy 29 = .ok (.aload_n 0, 1) := by decide +kernel
theorem dX6_copy_30 : decode cX6_copy 30 = .ok (.getfield 45, 3) := by decide +kernel
theorem dX6_copy_33 : decode cX6_copy 33 = .ok (.iload_n 3, 1) := by decide +kernel
theorem dX6_copy_34 : decode cX6_copy 34 = .ok (.iaload, 1) := by decide +kernel
theorem dX6_copy_35 : decode cX6_copy 35 = .ok (.ifCond .ne 10, 3) := by decide +kernel
theorem dX6_copy_38 : decode cX6_copy 38 = .ok (.aload_n 0, 1) := by decide +kernel
theorem dX6_copy_39 : decode cX6_copy 39 = .ok (.bipush (-2), 2) := by decide +kernel
theorem dX6_copy_41 : decode cX6_copy 41 = .ok (.invokevirtual 93, 3) := by decide +kernel
theorem dX6_copy_44 : decode cX6_copy 44 = .ok (.ireturn, 1) := by decide +kernel
theorem dX6_copy_45 : decode cX6_copy 45 = .ok (.aload_n 0, 1) := by decide +kernel
theorem dX6_copy_46 : decode cX6_copy 46 = .ok (.getfield 45, 3) := by decide +kernel
theorem dX6_copy_49 : decode cX6_copy 49 = .ok (.iload_n 1, 1) := by decide +kernel
theorem dX6_copy_50 : decode cX6_copy 50 = .ok (.iaload, 1) := by decide +kernel
theorem dX6_copy_51 : decode cX6_copy 51 = .ok (.aload_n 0, 1) := by decide +kernel
theorem dX6_copy_52 : decode cX6_copy 52 = .ok (.getfield 45, 3) := by decide +kernel
theorem dX6_copy_55 : decode cX6_copy 55 = .ok (.iload_n 3, 1) := by decide +kernel
theorem dX6_copy_56 : decode cX6_copy 56 = .ok (.iaload, 1) := by decide +kernel
theorem dX6_copy_57 : decode cX6_copy 57 = .ok (.if_icmp .eq 10, 3) := by decide +kernel
theorem dX6_copy_60 : decode cX6_copy 60 = .ok (.aload_n 0, 1) := by decide +kernel
theorem dX6_copy_61 : decode cX6_copy 61 = .ok (.bipush (-4), 2) := by decide +kernel
theorem dX6_copy_63 : decode cX6_copy 63 = .ok (.invokevirtual 93, 3) := by decide +kernel
theorem dX6_copy_66 : decode cX6_copy 66 = .ok (.ireturn, 1) := by decide +kernel
theorem dX6_copy_67 : decode cX6_copy 67 = .ok (.iload_n 2, 1) := by decide +kernel
theorem dX6_copy_68 : decode cX6_copy 68 = .ok (.ifCond .lt 48, 3) := by decide +kernel
theorem dX6_copy_71 : decode cX6_copy 71 = .ok (.iload 4, 2) := by decide +kernel
theorem dX6_copy_73 : decode cX6_copy 73 = .ok (.ifCond .lt 43, 3) := by decide +kernel
theorem dX6_copy_76 : decode cX6_copy 76 = .ok (.iload 5, 2) := by decide +kernel
theorem dX6_copy_78 : decode cX6_copy 78 = .ok (.ifCond .lt 38, 3) := by decide +kernel
theorem dX6_copy_81 : decode cX6_copy 81 = .ok (.iload_n 2, 1) := by decide +kernel
theorem dX6_copy_82 : decode cX6_copy 82 = .ok (.i2l, 1) := by decide +kernel
theorem dX6_copy_83 : decode cX6_copy 83 = .ok (.iload 5, 2) := by decide +kernel
theorem dX6_copy_85 : decode cX6_copy 85 = .ok (.i2l, 1) := by decide +kernel
theorem dX6_copy_86 : decode cX6_copy 86 = .ok (.ladd, 1) := by decide +kernel
theorem dX6_copy_87 : decode cX6_copy 87 = .ok (.aload_n 0, 1) := by decide +kernel
theorem dX6_copy_88 : decode cX6_copy 88 = .ok (.getfield 48, 3) := by decide +kernel
theorem dX6_copy_91 : decode cX6_copy 91 = .ok (.iload_n 1, 1) := by decide +kernel
theorem dX6_copy_92 : decode cX6_copy 92 = .ok (.iaload, 1) := by decide +kernel
theorem dX6_copy_93 : decode cX6_copy 93 = .ok (.i2l, 1) := by decide +kernel
theorem dX6_copy_94 : decode cX6_copy 94 = .ok (.lcmp, 1) := by decide +kernel
theorem dX6_copy_95 : decode cX6_copy 95 = .ok (.ifCond .gt 21, 3) := by decide +kernel
theorem dX6_copy_98 : decode cX6_copy 98 = .ok (.iload 4, 2) := by decide +kernel
theorem dX6_copy_100 : decode cX6_copy 100 = .ok (.i2l, 1) := by decide +kernel
theorem dX6_copy_101 : decode cX6_copy 101 = .ok (.iload 5, 2) := by decide +kernel
theorem dX6_copy_103 : decode cX6_copy 103 = .ok (.i2l, 1) := by decide +kernel
theorem dX6_copy_104 : decode cX6_copy 104 = .ok (.ladd, 1) := by decide +kernel
theorem dX6_copy_105 : decode cX6_copy 105 = .ok (.aload_n 0, 1) := by decide +kernel
theorem dX6_copy_106 : decode cX6_copy 106 = .ok (.getfield 48, 3) := by decide +kernel
theorem dX6_copy_109 : decode cX6_copy 109 = .ok (.iload_n 3, 1) := by decide +kernel
theorem dX6_copy_110 : decode cX6_copy 110 = .ok (.iaload, 1) := by decide +kernel
theorem dX6_copy_111 : decode cX6_copy 111 = .ok (.i2l, 1) := by decide +kernel
theorem dX6_copy_112 : decode cX6_copy 112 = .ok (.lcmp, 1) := by decide +kernel
theorem dX6_copy_113 : decode cX6_copy 113 = .ok (.ifCond .le 9, 3) := by decide +kernel
theorem dX6_copy_116 : decode cX6_copy 116 = .ok (.aload_n 0, 1) := by decide +kernel
theorem dX6_copy_117 : decode cX6_copy 117 = .ok (.iconst (-1), 1) := by decide +kernel
theorem dX6_copy_118 : decode cX6_copy 118 = .ok (.invokevirtual 93, 3) := by decide +kernel
theorem dX6_copy_121 : decode cX6_copy 121 = .ok (.ireturn, 1) := by decide +kernel
theorem dX6_copy_122 : decode cX6_copy 122 = .ok (.iconst 0, 1) := by decide +kernel
theorem dX6_copy_123 : decode cX6_copy 123 = .ok (.istore 6, 2) := by decide +kernel
theorem dX6_copy_125 : decode cX6_copy 125 = .ok (.iload 6, 2) := by decide +kernel
theorem dX6_copy_127 : decode cX6_copy 127 = .ok (.iload 5, 2) := by decide +kernel
theorem dX6_copy_129 : decode cX6_copy 129 = .ok (.if_icmp .ge 30, 3) := by decide +kernel
theorem dX6_copy_132 : decode cX6_copy 132 = .ok (.aload_n 0, 1) := by decide +kernel
theorem dX6_copy_133 : decode cX6_copy 133 = .ok (.getfield 61, 3) := by decide +kernel
theorem dX6_copy_136 : decode cX6_copy 136 = .ok (.iload 6, 2) := by decide +kernel
theorem dX6_copy_138 : decode cX6_copy 138 = .ok (.aload_n 0, 1) := by decide +kernel
theorem dX6_copy_139 : decode cX6_copy 139 = .ok (.getfield 51, 3) := by decide +kernel
theorem dX6_copy_142 : decode cX6_copy 142 = .ok (.bipush 12, 2) := by decide +kernel
theorem dX6_copy_144 : decode cX6_copy 144 = .ok (.iload_n 1, 1) := by decide +kernel
theorem dX6_copy_145 : decode cX6_copy 145 = .ok (.imul, 1) := by decide +kernel
theorem dX6_copy_146 : decode cX6_copy 146 = .ok (.iload_n 2, 1) := by decide +kernel
theorem dX6_copy_147 : decode cX6_copy 147 = .ok (.iadd, 1) := by decide +kernel
theorem dX6_copy_148 : decode cX6_copy 148 = .ok (.iload 6, 2) := by decide +kernel
theorem dX6_copy_150 : decode cX6_copy 150 = .ok (.iadd, 1) := by decide +kernel
theorem dX6_copy_151 : decode cX6_copy 151 = .ok (.laload, 1) := by decide +kernel
theorem dX6_copy_152 : decode cX6_copy 152 = .ok (.lastore, 1) := by decide +kernel
theorem dX6_copy_153 : decode cX6_copy 153 = .ok (.iinc 6 1, 3) := by decide +kernel
theorem dX6_copy_156 : decode cX6_copy 156 = .ok (.goto (-31), 3) := by decide +kernel
theorem dX6_copy_159 : decode cX6_copy 159 = .ok (.iconst 0, 1) := by decide +kernel
theorem dX6_copy_160 : decode cX6_copy 160 = .ok (.istore 6, 2) := by decide +kernel
theorem dX6_copy_162 : decode cX6_copy 162 = .ok (.iload 6, 2) := by decide +kernel
theorem dX6_copy_164 : decode cX6_copy 164 = .ok (.iload 5, 2) := by decide +kernel
theorem dX6_copy_166 : decode cX6_copy 166 = .ok (.if_icmp .ge 31, 3) := by decide +kernel
theorem dX6_copy_169 : decode cX6_copy 169 = .ok (.aload_n 0, 1) := by decide +kernel
theorem dX6_copy_170 : decode cX6_copy 170 = .ok (.getfield 51, 3) := by decide +kernel
theorem dX6_copy_173 : decode cX6_copy 173 = .ok (.bipush 12, 2) := by decide +kernel
theorem dX6_copy_175 : decode cX6_copy 175 = .ok (.iload_n 3, 1) := by decide +kernel
theorem dX6_copy_176 : decode cX6_copy 176 = .ok (.imul, 1) := by decide +kernel
theorem dX6_copy_177 : decode cX6_copy 177 = .ok (.iload 4, 2) := by decide +kernel
theorem dX6_copy_179 : decode cX6_copy 179 = .ok (.iadd, 1) := by decide +kernel
theorem dX6_copy_180 : decode cX6_copy 180 = .ok (.iload 6, 2) := by decide +kernel
theorem dX6_copy_182 : decode cX6_copy 182 = .ok (.iadd, 1) := by decide +kernel
theorem dX6_copy_183 : decode cX6_copy 183 = .ok (.aload_n 0, 1) := by decide +kernel
theorem dX6_copy_184 : decode cX6_copy 184 = .ok (.getfield 61, 3) := by decide +kernel
theorem dX6_copy_187 : decode cX6_copy 187 = .ok (.iload 6, 2) := by decide +kernel
theorem dX6_copy_189 : decode cX6_copy 189 = .ok (.laload, 1) := by decide +kernel
theorem dX6_copy_190 : decode cX6_copy 190 = .ok (.lastore, 1) := by decide +kernel
theorem dX6_copy_191 : decode cX6_copy 191 = .ok (.iinc 6 1, 3) := by decide +kernel
theorem dX6_copy_194 : decode cX6_copy 194 = .ok (.goto (-32), 3) := by decide +kernel
theorem dX6_copy_197 : decode cX6_copy 197 = .ok (.iload 5, 2) := by decide +kernel
theorem dX6_copy_199 : decode cX6_copy 199 = .ok (.ireturn, 1) := by decide +kernel
theorem dX6_key_0 : decode cX6_key 0 = .ok (.aload_n 0, 1) := by decide +kernel
theorem dX6_key_1 : decode cX6_key 1 = .ok (.getfield 51, 3) := by decide +kernel
theorem dX6_key_4 : decode cX6_key 4 = .ok (.bipush 12, 2) := by decide +kernel
theorem dX6_key_6 : decode cX6_key 6 = .ok (.iload_n 1, 1) := by decide +kernel
theorem dX6_key_7 : decode cX6_key 7 = .ok (.imul, 1) := by decide +kernel
theorem dX6_key_8 : decode cX6_key 8 = .ok (.iload_n 2, 1) := by decide +kernel
theorem dX6_key_9 : decode cX6_key 9 = .ok (.iadd, 1) := by decide +kernel
theorem dX6_key_10 : decode cX6_key 10 = .ok (.laload, 1) := by decide +kernel
theorem dX6_key_11 : decode cX6_key 11 = .ok (.lstore_n 3, 1) := by decide +kernel
theorem dX6_key_12 : decode cX6_key 12 = .ok (.aload_n 0, 1) := by decide +kernel
theorem dX6_key_13 : decode cX6_key 13 = .ok (.getfield 45, 3) := by decide +kernel
theorem dX6_key_16 : decode cX6_key 16 = .ok (.iload_n 1, 1) := by decide +kernel
theorem dX6_key_17 : decode cX6_key 17 = .ok (.iaload, 1) := by decide +kernel
theorem dX6_key_18 : decode cX6_key 18 = .ok (.bipush 6, 2) := by decide +kernel
theorem dX6_key_20 : decode cX6_key 20 = .ok (.if_icmp .ne 15, 3) := by decide +kernel
theorem dX6_key_23 : decode cX6_key 23 = .ok (.lload_n 3, 1) := by decide +kernel
theorem dX6_key_24 : decode cX6_key 24 = .ok (.lconst 0, 1) := by decide +kernel
theorem dX6_key_25 : decode cX6_key 25 = .ok (.lcmp, 1) := by decide +kernel
theorem dX6_key_26 : decode cX6_key 26 = .ok (.ifCond .ge 9, 3) := by decide +kernel
theorem dX6_key_29 : decode cX6_key 29 = .ok (.lload_n 3, 1) := by decide +kernel
theorem dX6_key_30 : decode cX6_key 30 = .ok (.ldc2_w 145, 3) := by decide +kernel
theorem dX6_key_33 : decode cX6_key 33 = .ok (.lxor, 1) := by decide +kernel
theorem dX6_key_34 : decode cX6_key 34 = .ok (.lreturn, 1) := by decide +kernel
theorem dX6_key_35 : decode cX6_key 35 = .ok (.aload_n 0, 1) := by decide +kernel
theorem dX6_key_36 : decode cX6_key 36 = .ok (.getfield 45, 3) := by decide +kernel
theorem dX6_key_39 : decode cX6_key 39 = .ok (.iload_n 1, 1) := by decide +kernel
theorem dX6_key_40 : decode cX6_key 40 = .ok (.iaload, 1) := by decide +kernel
theorem dX6_key_41 : decode cX6_key 41 = .ok (.bipush 7, 2) := by decide +kernel
theorem dX6_key_43 : decode cX6_key 43 = .ok (.if_icmp .ne 17, 3) := by decide +kernel
theorem dX6_key_46 : decode cX6_key 46 = .ok (.lload_n 3, 1) := by decide +kernel
theorem dX6_key_47 : decode cX6_key 47 = .ok (.lconst 0, 1) := by decide +kernel
theorem dX6_key_48 : decode cX6_key 48 = .ok (.lcmp, 1) := by decide +kernel
theorem dX6_key_49 : decode cX6_key 49 = .ok (.ifCond .ge 11, 3) := by decide +kernel
theorem dX6_key_52 : decode cX6_key 52 = .ok (.lload_n 3, 1) := by decide +kernel
theorem dX6_key_53 : decode cX6_key 53 = .ok (.ldc2_w 129, 3) := by decide +kernel
theorem dX6_key_56 : decode cX6_key 56 = .ok (.lxor, 1) := by decide +kernel
theorem dX6_key_57 : decode cX6_key 57 = .ok (.goto 4, 3) := by decide +kernel
theorem dX6_key_60 : decode cX6_key 60 = .ok (.lload_n 3, 1) := by decide +kernel
theorem dX6_key_61 : decode cX6_key 61 = .ok (.lreturn, 1) := by decide +kernel
theorem dX6_changes_0 : decode cX6_changes 0 = .ok (.aload_n 0, 1) := by decide +kernel
theorem dX6_changes_1 : decode cX6_changes 1 = .ok (.getfield 13, 3) := by decide +kernel
theorem dX6_changes_4 : decode cX6_changes 4 = .ok (.iload_n 1, 1) := by decide +kernel
theorem dX6_changes_5 : decode cX6_changes 5 = .ok (.iaload, 1) := by decide +kernel
theorem dX6_changes_6 : decode cX6_changes 6 = .ok (.tableswitch 54 0 3 #[30, 40, 50, 52], 30) := by decide +kernel
theorem dX6_changes_36 : decode cX6_changes 36 = .ok (.iload_n 2, 1) := by decide +kernel
theorem dX6_changes_37 : decode cX6_changes 37 = .ok (.ifCond .le 7, 3) := by decide +kernel
theorem dX6_changes_40 : decode cX6_changes 40 = .ok (.iconst 1, 1) := by decide +kernel
theorem dX6_changes_41 : decode cX6_changes 41 = .ok (.goto 4, 3) := by decide +kernel
theorem dX6_changes_44 : decode cX6_changes 44 = .ok (.iconst 0, 1) := by decide +kernel
theorem dX6_changes_45 : decode cX6_changes 45 = .ok (.ireturn, 1) := by decide +kernel
theorem dX6_changes_46 : decode cX6_changes 46 = .ok (.iload_n 2, 1) := by decide +kernel
theorem dX6_changes_47 : decode cX6_changes 47 = .ok (.ifCond .ge 7, 3) := by decide +kernel
theorem dX6_changes_50 : decode cX6_changes 50 = .ok (.iconst 1, 1) := by decide +kernel
theorem dX6_changes_51 : decode cX6_changes 51 = .ok (.goto 4, 3) := by decide +kernel
theorem dX6_changes_54 : decode cX6_changes 54 = .ok (.iconst 0, 1) := by decide +kernel
theorem dX6_changes_55 : decode cX6_changes 55 = .ok (.ireturn, 1) := by decide +kernel
theorem dX6_changes_56 : decode cX6_changes 56 = .ok (.iconst 0, 1) := by decide +kernel
theorem dX6_changes_57 : decode cX6_changes 57 = .ok (.ireturn, 1) := by decide +kernel
theorem dX6_changes_58 : decode cX6_changes 58 = .ok (.iconst 1, 1) := by decide +kernel
theorem dX6_changes_59 : decode cX6_changes 59 = .ok (.ireturn, 1) := by decide +kernel
theorem dX6_changes_60 : decode cX6_changes 60 = .ok (.aload_n 0, 1) := by decide +kernel
theorem dX6_changes_61 : decode cX6_changes 61 = .ok (.getfield 23, 3) := by decide +kernel
theorem dX6_changes_64 : decode cX6_changes 64 = .ok (.iload_n 1, 1) := by decide +kernel
theorem dX6_changes_65 : decode cX6_changes 65 = .ok (.baload, 1) := by decide +kernel
theorem dX6_changes_66 : decode cX6_changes 66 = .ok (.ifCond .eq 11, 3) := by decide +kernel
theorem dX6_changes_69 : decode cX6_changes 69 = .ok (.iload_n 2, 1) := by decide +kernel
theorem dX6_changes_70 : decode cX6_changes 70 = .ok (.ifCond .le 7, 3) := by decide +kernel
theorem dX6_changes_73 : decode cX6_changes 73 = .ok (.iconst 1, 1) := by decide +kernel
theorem dX6_changes_74 : decode cX6_changes 74 = .ok (.goto 4, 3) := by decide +kernel
theorem dX6_changes_77 : decode cX6_changes 77 = .ok (.iconst 0, 1) := by decide +kernel
theorem dX6_changes_78 : decode cX6_changes 78 = .ok (.ireturn, 1) := by decide +kernel
set_option maxRecDepth 20000 in
theorem ggX6_against_X6_key : GoodIn wsX6_against wsX6_key := goodIn_r _ [5, 6, 7, 8, 9, 10, 11, 12, 13, 14, 15, 16, 17, 18, 19, 20, 21, 22, 23, 24, 25, 26, 27, 28, 29, 30, 31, 32, 33, 34] (by decide +kernel) (by decide +kernel)
set_option maxRecDepth 20000 in
theorem gX6_against_X6_key : GoodIn wsX6_against (wsV RX6 147 RX6 yX6_key wsX6_key) := goodIn_app (goodIn_of _ (by decide +kernel)) ggX6_against_X6_key
theorem dX6_against_0 : decode cX6_against 0 = .ok (.aload_n 0, 1) := by decide +kernel
theorem dX6_against_1 : decode cX6_against 1 = .ok (.iload_n 1, 1) := by decide +kernel
theorem dX6_against_2 : decode cX6_against 2 = .ok (.iload_n 2, 1) := by decide +kernel
theorem dX6_against_3 : decode cX6_against 3 = .ok (.invokevirtual 147, 3) := by decide +kernel
theorem dX6_against_6 : decode cX6_against 6 = .ok (.lstore 4, 2) := by decide +kernel
theorem dX6_against_8 : decode cX6_against 8 = .ok (.aload_n 0, 1) := by decide +kernel
theorem dX6_against_9 : decode cX6_against 9 = .ok (.iload_n 1, 1) := by decide +kernel
theorem dX6_against_10 : decode cX6_against 10 = .ok (.iload_n 3, 1) := by decide +kernel
theorem dX6_against_11 : decode cX6_against 11 = .ok (.invokevirtual 147, 3) := by decide +kernel
theorem dX6_against_14 : decode cX6_against 14 = .ok (.lstore 6, 2) := by decide +kernel
theorem dX6_against_16 : decode cX6_against 16 = .ok (.lload 4, 2) := by decide +kernel
theorem dX6_against_18 : decode cX6_against 18 = .ok (.lload 6, 2) := by decide +kernel
theorem dX6_against_20 : decode cX6_against 20 = .ok (.lcmp, 1) := by decide +kernel
theorem dX6_against_21 : decode cX6_against 21 = .ok (.ifCond .ge 7, 3) := by decide +kernel
theorem dX6_against_24 : decode cX6_against 24 = .ok (.iconst (-1), 1) := by decide +kernel
theorem dX6_against_25 : decode cX6_against 25 = .ok (.goto 16, 3) := by decide +kernel
theorem dX6_against_28 : decode cX6_against 28 = .ok (.lload 4, 2) := by decide +kernel
theorem dX6_against_30 : decode cX6_against 30 = .ok (.lload 6, 2) := by decide +kernel
theorem dX6_against_32 : decode cX6_against 32 = .ok (.lcmp, 1) := by decide +kernel
theorem dX6_against_33 : decode cX6_against 33 = .ok (.ifCond .le 7, 3) := by decide +kernel
theorem dX6_against_36 : decode cX6_against 36 = .ok (.iconst 1, 1) := by decide +kernel
theorem dX6_against_37 : decode cX6_against 37 = .ok (.goto 4, 3) := by decide +kernel
theorem dX6_against_40 : decode cX6_against 40 = .ok (.iconst 0, 1) := by decide +kernel
theorem dX6_against_41 : decode cX6_against 41 = .ok (.ireturn, 1) := by decide +kernel
set_option maxRecDepth 20000 in
theorem ggX6_run_X6_isCrate : GoodIn wsX6_run wsX6_isCrate := goodIn_r _ [11, 12, 13, 10, 14] (by decide +kernel) (by decide +kernel)
set_option maxRecDepth 20000 in
theorem gX6_run_X6_isCrate : GoodIn wsX6_run (va_wsS RX6 120 yX6_isCrate wsX6_isCrate) := goodIn_app (goodIn_of _ (by decide +kernel)) ggX6_run_X6_isCrate
end
section
set_option maxRecDepth 20000 in
theorem ggX6_run_X6_found : GoodIn wsX6_run wsX6_found := goodIn_r _ [18, 19, 36, 37, 38, 39, 40, 41, 42, 43, 44, 45, 46, 47, 48, 49, 50, 51, 52, 53, 54, 55, 56, 57, 58, 59, 60] (by decide +kernel) (by decide +kernel)
set_option maxRecDepth 20000 in
theorem gX6_run_X6_found : GoodIn wsX6_run (wsV RX6 93 RX6 yX6_found wsX6_found) := goodIn_app (goodIn_of _ (by decide +kernel)) ggX6_run_X6_found
set_option maxRecDepth 20000 in
theorem ggX6_run_X6_against : GoodIn wsX6_run wsX6_against := goodIn_r _ [23, 24, 25, 26, 10, 27, 7, 1, 28, 29, 36, 37, 38, 39, 40, 41, 42, 43, 44, 45, 46, 47, 48, 49, 50, 51, 52, 53, 54, 55, 56, 57, 58, 59, 60] (by decide +kernel) (by decide +kernel)
set_option maxRecDepth 20000 in
theorem gX6_run_X6_against : GoodIn wsX6_run (wsV RX6 151 RX6 yX6_against wsX6_against) := goodIn_app (goodIn_of _ (by decide +kernel)) ggX6_run_X6_against
set_option maxRecDepth 20000 in
theorem ggX6_run_X6_changes : GoodIn wsX6_run wsX6_changes := goodIn_r _ [33, 34, 35, 36, 37, 38, 39, 40, 41, 42, 43, 44, 45, 46, 47, 48, 49, 50, 51, 52, 53, 54, 55, 56, 57, 58, 59, 60] (by decide +kernel) (by decide +kernel)
set_option maxRecDepth 20000 in
theorem gX6_run_X6_changes : GoodIn wsX6_run (wsV RX6 155 RX6 yX6_changes wsX6_changes) := goodIn_app (goodIn_of _ (by decide +kernel)) ggX6_run_X6_changes
theorem dX6_run_0 : decode cX6_run 0 = .ok (.iload_n 1, 1) := by decide +kernel
theorem dX6_run_1 : decode cX6_run 1 = .ok (.invokestatic 120, 3) := by decide +kernel
theorem dX6_run_4 : decode cX6_run 4 = .ok (.ifCond .ne 9, 3) := by decide +kernel
theorem dX6_run_7 : decode cX6_run 7 = .ok (.aload_n 0, 1) := by decide +kernel
theorem dX6_run_8 : decode cX6_run 8 = .ok (.iconst (-1), 1) := by decide +kernel
theorem dX6_run_9 : decode cX6_run 9 = .ok (.invokevirtual 93, 3) := by decide +kernel
theorem dX6_run_12 : decode cX6_run 12 = .ok (.ireturn, 1) := by decide +kernel
theorem dX6_run_13 : decode cX6_run 13 = .ok (.aload_n 0, 1) := by decide +kernel
theorem dX6_run_14 : decode cX6_run 14 = .ok (.getfield 45, 3) := by decide +kernel
theorem dX6_run_17 : decode cX6_run 17 = .ok (.iload_n 1, 1) := by decide +kernel
theorem dX6_run_18 : decode cX6_run 18 = .ok (.iaload, 1) := by decide +kernel
theorem dX6_run_19 : decode cX6_run 19 = .ok (.ifCond .ne 10, 3) := by decide +kernel
theorem dX6_run_22 : decode cX6_run 22 = .ok (.aload_n 0, 1) := by decide +kernel
theorem dX6_run_23 : decode cX6_run 23 = .ok (.bipush (-2), 2) := by decide +kernel
theorem dX6_run_25 : decode cX6_run 25 = .ok (.invokevirtual 93, 3) := by decide +kernel
theorem dX6_run_28 : decode cX6_run 28 = .ok (.ireturn, 1) := by decide +kernel
theorem dX6_run_29 : decode cX6_run 29 = .ok (.aload_n 0, 1) := by decide +kernel
theorem dX6_run_30 : decode cX6_run 30 = .ok (.getfield 48, 3) := by decide +kernel
theorem dX6_run_33 : decode cX6_run 33 = .ok (.iload_n 1, 1) := by decide +kernel
theorem dX6_run_34 : decode cX6_run 34 = .ok (.iaload, 1) := by decide +kernel
theorem dX6_run_35 : decode cX6_run 35 = .ok (.aload_n 0, 1) := by decide +kernel
theorem dX6_run_36 : decode cX6_run 36 = .ok (.getfield 7, 3) := by decide +kernel
theorem dX6_run_39 : decode cX6_run 39 = .ok (.if_icmp .ge 10, 3) := by decide +kernel
theorem dX6_run_42 : decode cX6_run 42 = .ok (.aload_n 0, 1) := by decide +kernel
theorem dX6_run_43 : decode cX6_run 43 = .ok (.bipush (-3), 2) := by decide +kernel
theorem dX6_run_45 : decode cX6_run 45 = .ok (.invokevirtual 93, 3) := by decide +kernel
theorem dX6_run_48 : decode cX6_run 48 = .ok (.ireturn, 1) := by decide +kernel
theorem dX6_run_49 : decode cX6_run 49 = .ok (.iconst 0, 1) := by decide +kernel
theorem dX6_run_50 : decode cX6_run 50 = .ok (.istore_n 2, 1) := by decide +kernel
theorem dX6_run_51 : decode cX6_run 51 = .ok (.iconst 0, 1) := by decide +kernel
theorem dX6_run_52 : decode cX6_run 52 = .ok (.istore_n 3, 1) := by decide +kernel
theorem dX6_run_53 : decode cX6_run 53 = .ok (.iload_n 3, 1) := by decide +kernel
theorem dX6_run_54 : decode cX6_run 54 = .ok (.aload_n 0, 1) := by decide +kernel
theorem dX6_run_55 : decode cX6_run 55 = .ok (.getfield 79, 3) := by decide +kernel
theorem dX6_run_58 : decode cX6_run 58 = .ok (.if_icmp .ge 108, 3) := by decide +kernel
theorem dX6_run_61 : decode cX6_run 61 = .ok (.aload_n 0, 1) := by decide +kernel
theorem dX6_run_62 : decode cX6_run 62 = .ok (.iload_n 3, 1) := by decide +kernel
theorem dX6_run_63 : decode cX6_run 63 = .ok (.aload_n 0, 1) := by decide +kernel
theorem dX6_run_64 : decode cX6_run 64 = .ok (.iload_n 1, 1) := by decide +kernel
theorem dX6_run_65 : decode cX6_run 65 = .ok (.aload_n 0, 1) := by decide +kernel
theorem dX6_run_66 : decode cX6_run 66 = .ok (.getfield 17, 3) := by decide +kernel
theorem dX6_run_69 : decode cX6_run 69 = .ok (.iload_n 3, 1) := by decide +kernel
theorem dX6_run_70 : decode cX6_run 70 = .ok (.iaload, 1) := by decide +kernel
theorem dX6_run_71 : decode cX6_run 71 = .ok (.aload_n 0, 1) := by decide +kernel
theorem dX6_run_72 : decode cX6_run 72 = .ok (.getfield 20, 3) := by decide +kernel
theorem dX6_run_75 : decode cX6_run 75 = .ok (.iload_n 3, 1) := by decide +kernel
theorem dX6_run_76 : decode cX6_run 76 = .ok (.iaload, 1) := by decide +kernel
theorem dX6_run_77 : decode cX6_run 77 = .ok (.invokevirtual 151, 3) := by decide +kernel
theorem dX6_run_80 : decode cX6_run 80 = .ok (.invokevirtual 155, 3) := by decide +kernel
theorem dX6_run_83 : decode cX6_run 83 = .ok (.ifCond .ne 6, 3) := by decide +kernel
theorem dX6_run_86 : decode cX6_run 86 = .ok (.goto 74, 3) := by decide +kernel
theorem dX6_run_89 : decode cX6_run 89 = .ok (.aload_n 0, 1) := by decide +kernel
theorem dX6_run_90 : decode cX6_run 90 = .ok (.getfield 51, 3) := by decide +kernel
theorem dX6_run_93 : decode cX6_run 93 = .ok (.bipush 12, 2) := by decide +kernel
theorem dX6_run_95 : decode cX6_run 95 = .ok (.iload_n 1, 1) := by decide +kernel
theorem dX6_run_96 : decode cX6_run 96 = .ok (.imul, 1) := by decide +kernel
theorem dX6_run_97 : decode cX6_run 97 = .ok (.aload_n 0, 1) := by decide +kernel
theorem dX6_run_98 : decode cX6_run 98 = .ok (.getfield 17, 3) := by decide +kernel
theorem dX6_run_101 : decode cX6_run 101 = .ok (.iload_n 3, 1) := by decide +kernel
theorem dX6_run_102 : decode cX6_run 102 = .ok (.iaload, 1) := by decide +kernel
theorem dX6_run_103 : decode cX6_run 103 = .ok (.iadd, 1) := by decide +kernel
theorem dX6_run_104 : decode cX6_run 104 = .ok (.laload, 1) := by decide +kernel
theorem dX6_run_105 : decode cX6_run 105 = .ok (.lstore 4, 2) := by decide +kernel
theorem dX6_run_107 : decode cX6_run 107 = .ok (.aload_n 0, 1) := by decide +kernel
theorem dX6_run_108 : decode cX6_run 108 = .ok (.getfield 51, 3) := by decide +kernel
theorem dX6_run_111 : decode cX6_run 111 = .ok (.bipush 12, 2) := by decide +kernel
theorem dX6_run_113 : decode cX6_run 113 = .ok (.iload_n 1, 1) := by decide +kernel
theorem dX6_run_114 : decode cX6_run 114 = .ok (.imul, 1) := by decide +kernel
theorem dX6_run_115 : decode cX6_run 115 = .ok (.aload_n 0, 1) := by decide +kernel
theorem dX6_run_116 : decode cX6_run 116 = .ok (.getfield 17, 3) := by decide +kernel
theorem dX6_run_119 : decode cX6_run 119 = .ok (.iload_n 3, 1) := by decide +kernel
theorem dX6_run_120 : decode cX6_run 120 = .ok (.iaload, 1) := by decide +kernel
theorem dX6_run_121 : decode cX6_run 121 = .ok (.iadd, 1) := by decide +kernel
theorem dX6_run_122 : decode cX6_run 122 = .ok (.aload_n 0, 1) := by decide +kernel
theorem dX6_run_123 : decode cX6_run 123 = .ok (.getfield 51, 3) := by decide +kernel
theorem dX6_run_126 : decode cX6_run 126 = .ok (.bipush 12, 2) := by decide +kernel
theorem dX6_run_128 : decode cX6_run 128 = .ok (.iload_n 1, 1) := by decide +kernel
theorem dX6_run_129 : decode cX6_run 129 = .ok (.imul, 1) := by decide +kernel
theorem dX6_run_130 : decode cX6_run 130 = .ok (.aload_n 0, 1) := by decide +kernel
theorem dX6_run_131 : decode cX6_run 131 = .ok (.getfield 20, 3) := by decide +kernel
theorem dX6_run_134 : decode cX6_run 134 = .ok (.iload_n 3, 1) := by decide +kernel
theorem dX6_run_135 : decode cX6_run 135 = .ok (.iaload, 1) := by decide +kernel
theorem dX6_run_136 : decode cX6_run 136 = .ok (.iadd, 1) := by decide +kernel
theorem dX6_run_137 : decode cX6_run 137 = .ok (.laload, 1) := by decide +kernel
theorem dX6_run_138 : decode cX6_run 138 = .ok (.lastore, 1) := by decide +kernel
theorem dX6_run_139 : decode cX6_run 139 = .ok (.aload_n 0, 1) := by decide +kernel
theorem dX6_run_140 : decode cX6_run 140 = .ok (.getfield 51, 3) := by decide +kernel
theorem dX6_run_143 : decode cX6_run 143 = .ok (.bipush 12, 2) := by decide +kernel
theorem dX6_run_145 : decode cX6_run 145 = .ok (.iload_n 1, 1) := by decide +kernel
theorem dX6_run_146 : decode cX6_run 146 = .ok (.imul, 1) := by decide +kernel
theorem dX6_run_147 : decode cX6_run 147 = .ok (.aload_n 0, 1) := by decide +kernel
theorem dX6_run_148 : decode cX6_run 148 = .ok (.getfield 20, 3) := by decide +kernel
theorem dX6_run_151 : decode cX6_run 151 = .ok (.iload_n 3, 1) := by decide +kernel
theorem dX6_run_152 : decode cX6_run 152 = .ok (.iaload, 1) := by decide +kernel
theorem dX6_run_153 : decode cX6_run 153 = .ok (.iadd, 1) := by decide +kernel
theorem dX6_run_154 : decode cX6_run 154 = .ok (.lload 4, 2) := by decide +kernel
theorem dX6_run_156 : decode cX6_run 156 = .ok (.lastore, 1) := by decide +kernel
theorem dX6_run_157 : decode cX6_run 157 = .ok (.iinc 2 1, 3) := by decide +kernel
theorem dX6_run_160 : decode cX6_run 160 = .ok (.iinc 3 1, 3) := by decide +kernel
theorem dX6_run_163 : decode cX6_run 163 = .ok (.goto (-110), 3) := by decide +kernel
theorem dX6_run_166 : decode cX6_run 166 = .ok (.iload_n 2, 1) := by decide +kernel
theorem dX6_run_167 : decode cX6_run 167 = .ok (.ireturn, 1) := by decide +kernel
set_option maxRecDepth 20000 in
theorem ggX6_rises_X6_isCrate : GoodIn wsX6_rises wsX6_isCrate := goodIn_r _ [6, 7, 8, 5, 9] (by decide +kernel) (by decide +kernel)
set_option maxRecDepth 20000 in
theorem gX6_rises_X6_isCrate : GoodIn wsX6_rises (va_wsS RX6 120 yX6_isCrate wsX6_isCrate) := goodIn_app (goodIn_of _ (by decide +kernel)) ggX6_rises_X6_isCrate
set_option maxRecDepth 20000 in
theorem ggX6_rises_X6_found : GoodIn wsX6_rises wsX6_found := goodIn_r _ [13, 14, 26, 27, 28, 29, 30, 31, 32, 33, 34, 35, 36, 37, 38, 39, 40, 41, 42, 43, 44, 45, 46, 47, 48, 49, 50] (by decide +kernel) (by decide +kernel)
set_option maxRecDepth 20000 in
theorem gX6_rises_X6_found : GoodIn wsX6_rises (wsV RX6 93 RX6 yX6_found wsX6_found) := goodIn_app (goodIn_of _ (by decide +kernel)) ggX6_rises_X6_found
set_option maxRecDepth 20000 in
theorem ggX6_rises_X6_against : GoodIn wsX6_rises wsX6_against := goodIn_r _ [18, 19, 20, 21, 5, 22, 23, 1, 24, 25, 26, 27, 28, 29, 30, 31, 32, 33, 34, 35, 36, 37, 38, 39, 40, 41, 42, 43, 44, 45, 46, 47, 48, 49, 50] (by decide +kernel) (by decide +kernel)
set_option maxRecDepth 20000 in
theorem gX6_rises_X6_against : GoodIn wsX6_rises (wsV RX6 151 RX6 yX6_against wsX6_against) := goodIn_app (goodIn_of _ (by decide +kernel)) ggX6_rises_X6_against
theorem dX6_rises_0 : decode cX6_rises 0 = .ok (.iload_n 1, 1) := by decide +kernel
theorem dX6_rises_1 : decode cX6_rises 1 = .ok (.invokestatic 120, 3) := by decide +kernel
theorem dX6_rises_4 : decode cX6_rises 4 = .ok (.ifCond .ne 9, 3) := by decide +kernel
theorem dX6_rises_7 : decode cX6_rises 7 = .ok (.aload_n 0, 1) := by decide +kernel
theorem dX6_rises_8 : decode cX6_rises 8 = .ok (.iconst (-1), 1) := by decide +kernel
theorem dX6_rises_9 : decode cX6_rises 9 = .ok (.invokevirtual 93, 3) := by decide +kernel
theorem dX6_rises_12 : decode cX6_rises 12 = .ok (.ireturn, 1) := by decide +kernel
theorem dX6_rises_13 : decode cX6_rises 13 = .ok (.aload_n 0, 1) := by decide +kernel
theorem dX6_rises_14 : decode cX6_rises 14 = .ok (.getfield 45, 3) := by decide +kernel
theorem dX6_rises_17 : decode cX6_rises 17 = .ok (.iload_n 1, 1) := by decide +kernel
theorem dX6_rises_18 : decode cX6_rises 18 = .ok (.iaload, 1) := by decide +kernel
theorem dX6_rises_19 : decode cX6_rises 19 = .ok (.ifCond .ne 10, 3) := by decide +kernel
theorem dX6_rises_22 : decode cX6_rises 22 = .ok (.aload_n 0, 1) := by decide +kernel
theorem dX6_rises_23 : decode cX6_rises 23 = .ok (.bipush (-2), 2) := by decide +kernel
theorem dX6_rises_25 : decode cX6_rises 25 = .ok (.invokevirtual 93, 3) := by decide +kernel
theorem dX6_rises_28 : decode cX6_rises 28 = .ok (.ireturn, 1) := by decide +kernel
theorem dX6_rises_29 : decode cX6_rises 29 = .ok (.iconst 1, 1) := by decide +kernel
theorem dX6_rises_30 : decode cX6_rises 30 = .ok (.istore_n 2, 1) := by decide +kernel
theorem dX6_rises_31 : decode cX6_rises 31 = .ok (.iload_n 2, 1) := by decide +kernel
theorem dX6_rises_32 : decode cX6_rises 32 = .ok (.aload_n 0, 1) := by decide +kernel
theorem dX6_rises_33 : decode cX6_rises 33 = .ok (.getfield 48, 3) := by decide +kernel
theorem dX6_rises_36 : decode cX6_rises 36 = .ok (.iload_n 1, 1) := by decide +kernel
theorem dX6_rises_37 : decode cX6_rises 37 = .ok (.iaload, 1) := by decide +kernel
theorem dX6_rises_38 : decode cX6_rises 38 = .ok (.if_icmp .ge 23, 3) := by decide +kernel
theorem dX6_rises_41 : decode cX6_rises 41 = .ok (.aload_n 0, 1) := by decide +kernel
theorem dX6_rises_42 : decode cX6_rises 42 = .ok (.iload_n 1, 1) := by decide +kernel
theorem dX6_rises_43 : decode cX6_rises 43 = .ok (.iload_n 2, 1) := by decide +kernel
theorem dX6_rises_44 : decode cX6_rises 44 = .ok (.iconst 1, 1) := by decide +kernel
theorem dX6_rises_45 : decode cX6_rises 45 = .ok (.isub, 1) := by decide +kernel
theorem dX6_rises_46 : decode cX6_rises 46 = .ok (.iload_n 2, 1) := by decide +kernel
theorem dX6_rises_47 : decode cX6_rises 47 = .ok (.invokevirtual 151, 3) := by decide +kernel
theorem dX6_rises_50 : decode cX6_rises 50 = .ok (.ifCond .le 5, 3) := by decide +kernel
theorem dX6_rises_53 : decode cX6_rises 53 = .ok (.iconst 0, 1) := by decide +kernel
theorem dX6_rises_54 : decode cX6_rises 54 = .ok (.ireturn, 1) := by decide +kernel
theorem dX6_rises_55 : decode cX6_rises 55 = .ok (.iinc 2 1, 3) := by decide +kernel
theorem dX6_rises_58 : decode cX6_rises 58 = .ok (.goto (-27), 3) := by decide +kernel
theorem dX6_rises_61 : decode cX6_rises 61 = .ok (.iconst 1, 1) := by decide +kernel
theorem dX6_rises_62 : decode cX6_rises 62 = .ok (.ireturn, 1) := by decide +kernel
set_option maxRecDepth 20000 in
theorem ggX6_order_X6_lacks : GoodIn wsX6_order wsX6_lacks := goodIn_r _ [5, 6, 7, 8, 9, 4, 10, 11, 12, 13, 30, 31, 32, 33, 34, 35, 36, 37, 38, 39, 40, 41, 42, 43, 44, 45, 46, 47, 48, 49, 50, 51, 52, 53, 54] (by decide +kernel) (by decide +kernel)
set_option maxRecDepth 20000 in
theorem gX6_order_X6_lacks : GoodIn wsX6_order (wsV RX6 135 RX6 yX6_lacks wsX6_lacks) := goodIn_app (goodIn_of _ (by decide +kernel)) ggX6_order_X6_lacks
set_option maxRecDepth 20000 in
theorem ggX6_order_X6_found : GoodIn wsX6_order wsX6_found := goodIn_r _ [17, 18, 30, 31, 32, 33, 34, 35, 36, 37, 38, 39, 40, 41, 42, 43, 44, 45, 46, 47, 48, 49, 50, 51, 52, 53, 54] (by decide +kernel) (by decide +kernel)
set_option maxRecDepth 20000 in
theorem gX6_order_X6_found : GoodIn wsX6_order (wsV RX6 93 RX6 yX6_found wsX6_found) := goodIn_app (goodIn_of _ (by decide +kernel)) ggX6_order_X6_found
set_option maxRecDepth 20000 in
theorem ggX6_order_X6_against : GoodIn wsX6_order wsX6_against := goodIn_r _ [22, 23, 24, 25, 4, 26, 27, 6, 28, 29, 30, 31, 32, 33, 34, 35, 36, 37, 38, 39, 40, 41, 42, 43, 44, 45, 46, 47, 48, 49, 50, 51, 52, 53, 54] (by decide +kernel) (by decide +kernel)
set_option maxRecDepth 20000 in
theorem gX6_order_X6_against : GoodIn wsX6_order (wsV RX6 151 RX6 yX6_against wsX6_against) := goodIn_app (goodIn_of _ (by decide +kernel)) ggX6_order_X6_against
theorem dX6_order_0 : decode cX6_order 0 = .ok (.aload_n 0, 1) := by decide +kernel
theorem dX6_order_1 : decode cX6_order 1 = .ok (.iload_n 1, 1) := by decide +kernel
theorem dX6_order_2 : decode cX6_order 2 = .ok (.iload_n 2, 1) := by decide +kernel
theorem dX6_order_3 : decode cX6_order 3 = .ok (.invokevirtual 135, 3) := by decide +kernel
theorem dX6_order_6 : decode cX6_order 6 = .ok (.istore 4, 2) := by decide +kernel
theorem dX6_order_8 : decode cX6_order 8 = .ok (.iload 4, 2) := by decide +kernel
theorem dX6_order_10 : decode cX6_order 10 = .ok (.ifCond .ne 11, 3) := by decide +kernel
theorem dX6_order_13 : decode cX6_order 13 = .ok (.aload_n 0, 1) := by decide +kernel
theorem dX6_order_14 : decode cX6_order 14 = .ok (.iload_n 1, 1) := by decide +kernel
theorem dX6_order_15 : decode cX6_order 15 = .ok (.iload_n 3, 1) := by decide +kernel
theorem dX6_order_16 : decode cX6_order 16 = .ok (.invokevirtual 135, 3) := by decide +kernel
theorem dX6_order_19 : decode cX6_order 19 = .ok (.istore 4, 2) := by decide +kernel
theorem dX6_order_21 : decode cX6_order 21 = .ok (.iload 4, 2) := by decide +kernel
theorem dX6_order_23 : decode cX6_order 23 = .ok (.ifCond .ge 12, 3) := by decide +kernel
theorem dX6_order_26 : decode cX6_order 26 = .ok (.aload_n 0, 1) := by decide +kernel
theorem dX6_order_27 : decode cX6_order 27 = .ok (.iload 4, 2) := by decide +kernel
theorem dX6_order_29 : decode cX6_order 29 = .ok (.invokevirtual 93, 3) := by decide +kernel
theorem dX6_order_32 : decode cX6_order 32 = .ok (.goto 13, 3) := by decide +kernel
theorem dX6_order_35 : decode cX6_order 35 = .ok (.bipush 10, 2) := by decide +kernel
theorem dX6_order_37 : decode cX6_order 37 = .ok (.aload_n 0, 1) := by decide +kernel
theorem dX6_order_38 : decode cX6_order 38 = .ok (.iload_n 1, 1) := by decide +kernel
theorem dX6_order_39 : decode cX6_order 39 = .ok (.iload_n 2, 1) := by decide +kernel
theorem dX6_order_40 : decode cX6_order 40 = .ok (.iload_n 3, 1) := by decide +kernel
theorem dX6_order_41 : decode cX6_order 41 = .ok (.invokevirtual 151, 3) := by decide +kernel
theorem dX6_order_44 : decode cX6_order 44 = .ok (.iadd, 1) := by decide +kernel
theorem dX6_order_45 : decode cX6_order 45 = .ok (.ireturn, 1) := by decide +kernel
theorem dX6_at_0 : decode cX6_at 0 = .ok (.iload_n 0, 1) := by decide +kernel
theorem dX6_at_1 : decode cX6_at 1 = .ok (.iload_n 1, 1) := by decide +kernel
theorem dX6_at_2 : decode cX6_at 2 = .ok (.ishr, 1) := by decide +kernel
theorem dX6_at_3 : decode cX6_at 3 = .ok (.iconst 1, 1) := by decide +kernel
theorem dX6_at_4 : decode cX6_at 4 = .ok (.iand, 1) := by decide +kernel
theorem dX6_at_5 : decode cX6_at 5 = .ok (.ireturn, 1) := by decide +kernel
set_option maxRecDepth 20000 in
theorem ggX6_goes_X6_at : GoodIn wsX6_goes wsX6_at := goodIn_r _ [6] (by decide +kernel) (by decide +kernel)
set_option maxRecDepth 20000 in
theorem gX6_goes_X6_at : GoodIn wsX6_goes (va_wsS RX6 159 yX6_at wsX6_at) := goodIn_app (goodIn_of _ (by decide +kernel)) ggX6_goes_X6_at
set_option maxRecDepth 20000 in
theorem ggX6_goes_X6_changes : GoodIn wsX6_goes wsX6_changes := goodIn_r _ [10, 11, 12, 13, 14, 15, 16, 17, 18, 19, 20, 21, 22, 23, 24, 25, 26, 27, 28, 29, 30, 31, 32, 33, 34, 35, 36, 37] (by decide +kernel) (by decide +kernel)
set_option maxRecDepth 20000 in
theorem gX6_goes_X6_changes : GoodIn wsX6_goes (wsV RX6 155 RX6 yX6_changes wsX6_changes) := goodIn_app (goodIn_of _ (by decide +kernel)) ggX6_goes_X6_changes
theorem dX6_goes_0 : decode cX6_goes 0 = .ok (.iload_n 1, 1) := by decide +kernel
theorem dX6_goes_1 : decode cX6_goes 1 = .ok (.istore 4, 2) := by decide +kernel
theorem dX6_goes_3 : decode cX6_goes 3 = .ok (.iconst 0, 1) := by decide +kernel
theorem dX6_goes_4 : decode cX6_goes 4 = .ok (.istore 5, 2) := by decide +kernel
theorem dX6_goes_6 : decode cX6_goes 6 = .ok (.iload 5, 2) := by decide +kernel
theorem dX6_goes_8 : decode cX6_goes 8 = .ok (.iload_n 2, 1) := by decide +kernel
theorem dX6_goes_9 : decode cX6_goes 9 = .ok (.if_icmp .ge 85, 3) := by decide +kernel
theorem dX6_goes_12 : decode cX6_goes 12 = .ok (.iload 4, 2) := by decide +kernel
theorem dX6_goes_14 : decode cX6_goes 14 = .ok (.aload_n 0, 1) := by decide +kernel
theorem dX6_goes_15 : decode cX6_goes 15 = .ok (.getfield 17, 3) := by decide +kernel
theorem dX6_goes_18 : decode cX6_goes 18 = .ok (.iload 5, 2) := by decide +kernel
theorem dX6_goes_20 : decode cX6_goes 20 = .ok (.iaload, 1) := by decide +kernel
theorem dX6_goes_21 : decode cX6_goes 21 = .ok (.invokestatic 159, 3) := by decide +kernel
theorem dX6_goes_24 : decode cX6_goes 24 = .ok (.iload 4, 2) := by decide +kernel
theorem dX6_goes_26 : decode cX6_goes 26 = .ok (.aload_n 0, 1) := by decide +kernel
theorem dX6_goes_27 : decode cX6_goes 27 = .ok (.getfield 20, 3) := by decide +kernel
theorem dX6_goes_30 : decode cX6_goes 30 = .ok (.iload 5, 2) := by decide +kernel
theorem dX6_goes_32 : decode cX6_goes 32 = .ok (.iaload, 1) := by decide +kernel
theorem dX6_goes_33 : decode cX6_goes 33 = .ok (.invokestatic 159, 3) := by decide +kernel
theorem dX6_goes_36 : decode cX6_goes 36 = .ok (.isub, 1) := by decide +kernel
theorem dX6_goes_37 : decode cX6_goes 37 = .ok (.istore 6, 2) := by decide +kernel
theorem dX6_goes_39 : decode cX6_goes 39 = .ok (.iload 5, 2) := by decide +kernel
theorem dX6_goes_41 : decode cX6_goes 41 = .ok (.iload_n 3, 1) := by decide +kernel
theorem dX6_goes_42 : decode cX6_goes 42 = .ok (.if_icmp .eq 46, 3) := by decide +kernel
theorem dX6_goes_45 : decode cX6_goes 45 = .ok (.aload_n 0, 1) := by decide +kernel
theorem dX6_goes_46 : decode cX6_goes 46 = .ok (.iload 5, 2) := by decide +kernel
theorem dX6_goes_48 : decode cX6_goes 48 = .ok (.iload 6, 2) := by decide +kernel
theorem dX6_goes_50 : decode cX6_goes 50 = .ok (.invokevirtual 155, 3) := by decide +kernel
theorem dX6_goes_53 : decode cX6_goes 53 = .ok (.ifCond .eq 35, 3) := by decide +kernel
theorem dX6_goes_56 : decode cX6_goes 56 = .ok (.iload 6, 2) := by decide +kernel
theorem dX6_goes_58 : decode cX6_goes 58 = .ok (.ifCond .ne 6, 3) := by decide +kernel
theorem dX6_goes_61 : decode cX6_goes 61 = .ok (.goto 27, 3) := by decide +kernel
theorem dX6_goes_64 : decode cX6_goes 64 = .ok (.iload 4, 2) := by decide +kernel
theorem dX6_goes_66 : decode cX6_goes 66 = .ok (.iconst 1, 1) := by decide +kernel
theorem dX6_goes_67 : decode cX6_goes 67 = .ok (.aload_n 0, 1) := by decide +kernel
theorem dX6_goes_68 : decode cX6_goes 68 = .ok (.getfield 17, 3) := by decide +kernel
theorem dX6_goes_71 : decode cX6_goes 71 = .ok (.iload 5, 2) := by decide +kernel
theorem dX6_goes_73 : decode cX6_goes 73 = .ok (.iaload, 1) := by decide +kernel
theorem dX6_goes_74 : decode cX6_goes 74 = .ok (.ishl, 1) := by decide +kernel
theorem dX6_goes_75 : decode cX6_goes 75 = .ok (.ixor, 1) := by decide +kernel
theorem dX6_goes_76 : decode cX6_goes 76 = .ok (.iconst 1, 1) := by decide +kernel
theorem dX6_goes_77 : decode cX6_goes 77 = .ok (.aload_n 0, 1) := by decide +kernel
theorem dX6_goes_78 : decode cX6_goes 78 = .ok (.getfield 20, 3) := by decide +kernel
theorem dX6_goes_81 : decode cX6_goes 81 = .ok (.iload 5, 2) := by decide +kernel
theorem dX6_goes_83 : decode cX6_goes 83 = .ok (.iaload, 1) := by decide +kernel
theorem dX6_goes_84 : decode cX6_goes 84 = .ok (.ishl, 1) := by decide +kernel
theorem dX6_goes_85 : decode cX6_goes 85 = .ok (.ixor, 1) := by decide +kernel
theorem dX6_goes_86 : decode cX6_goes 86 = .ok (.istore 4, 2) := by decide +kernel
theorem dX6_goes_88 : decode cX6_goes 88 = .ok (.iinc 5 1, 3) := by decide +kernel
theorem dX6_goes_91 : decode cX6_goes 91 = .ok (.goto (-85), 3) := by decide +kernel
theorem dX6_goes_94 : decode cX6_goes 94 = .ok (.iload 4, 2) := by decide +kernel
theorem dX6_goes_96 : decode cX6_goes 96 = .ok (.ireturn, 1) := by decide +kernel
set_option maxRecDepth 20000 in
theorem ggX6_isRising_X6_at : GoodIn wsX6_isRising wsX6_at := goodIn_r _ [5] (by decide +kernel) (by decide +kernel)
set_option maxRecDepth 20000 in
theorem gX6_isRising_X6_at : GoodIn wsX6_isRising (va_wsS RX6 159 yX6_at wsX6_at) := goodIn_app (goodIn_of _ (by decide +kernel)) ggX6_isRising_X6_at
theorem dX6_isRising_0 : decode cX6_isRising 0 = .ok (.iconst 1, 1) := by decide +kernel
theorem dX6_isRising_1 : decode cX6_isRising 1 = .ok (.istore_n 2, 1) := by decide +kernel
theorem dX6_isRising_2 : decode cX6_isRising 2 = .ok (.iload_n 2, 1) := by decide +kernel
theorem dX6_isRising_3 : decode cX6_isRising 3 = .ok (.aload_n 0, 1) := by decide +kernel
theorem dX6_isRising_4 : decode cX6_isRising 4 = .ok (.getfield 7, 3) := by decide +kernel
theorem dX6_isRising_7 : decode cX6_isRising 7 = .ok (.if_icmp .ge 26, 3) := by decide +kernel
theorem dX6_isRising_10 : decode cX6_isRising 10 = .ok (.iload_n 1, 1) := by decide +kernel
theorem dX6_isRising_11 : decode cX6_isRising 11 = .ok (.iload_n 2, 1) := by decide +kernel
theorem dX6_isRising_12 : decode cX6_isRising 12 = .ok (.iconst 1, 1) := by decide +kernel
theorem dX6_isRising_13 : decode cX6_isRising 13 = .ok (.isub, 1) := by decide +kernel
theorem dX6_isRising_14 : decode cX6_isRising 14 = .ok (.invokestatic 159, 3) := by decide +kernel
theorem dX6_isRising_17 : decode cX6_isRising 17 = .ok (.iload_n 1, 1) := by decide +kernel
theorem dX6_isRising_18 : decode cX6_isRising 18 = .ok (.iload_n 2, 1) := by decide +kernel
theorem dX6_isRising_19 : decode cX6_isRising 19 = .ok (.invokestatic 159, 3) := by decide +kernel
theorem dX6_isRising_22 : decode cX6_isRising 22 = .ok (.if_icmp .le 5, 3) := by decide +kernel
theorem dX6_isRising_25 : decode cX6_isRising 25 = .ok (.iconst 0, 1) := by decide +kernel
theorem dX6_isRising_26 : decode cX6_isRising 26 = .ok (.ireturn, 1) := by decide +kernel
theorem dX6_isRising_27 : decode cX6_isRising 27 = .ok (.iinc 2 1, 3) := by decide +kernel
theorem dX6_isRising_30 : decode cX6_isRising 30 = .ok (.goto (-28), 3) := by decide +kernel
theorem dX6_isRising_33 : decode cX6_isRising 33 = .ok (.iconst 1, 1) := by decide +kernel
theorem dX6_isRising_34 : decode cX6_isRising 34 = .ok (.ireturn, 1) := by decide +kernel
theorem dX6_rows_0 : decode cX6_rows 0 = .ok (.iconst 1, 1) := by decide +kernel
theorem dX6_rows_1 : decode cX6_rows 1 = .ok (.aload_n 0, 1) := by decide +kernel
theorem dX6_rows_2 : decode cX6_rows 2 = .ok (.getfield 7, 3) := by decide +kernel
theorem dX6_rows_5 : decode cX6_rows 5 = .ok (.ishl, 1) := by decide +kernel
theorem dX6_rows_6 : decode cX6_rows 6 = .ok (.ireturn, 1) := by decide +kernel
set_option maxRecDepth 20000 in
theorem ggX6_failing_X6_rows : GoodIn wsX6_failing wsX6_rows := goodIn_r _ [6, 7, 27, 28, 29, 30, 31, 32, 33, 34, 35, 36, 37, 38, 39, 40, 41, 42, 43, 44, 45, 46, 47, 48, 49, 50, 51] (by decide +kernel) (by decide +kernel)
set_option maxRecDepth 20000 in
theorem gX6_failing_X6_rows : GoodIn wsX6_failing (wsV RX6 162 RX6 yX6_rows wsX6_rows) := goodIn_app (goodIn_of _ (by decide +kernel)) ggX6_failing_X6_rows
set_option maxRecDepth 20000 in
theorem ggX6_failing_X6_goes : GoodIn wsX6_failing wsX6_goes := goodIn_r _ [11, 12, 13, 14, 15, 5, 16, 17, 18, 19, 20, 21, 22, 27, 28, 29, 30, 31, 32, 33, 34, 35, 36, 37, 38, 39, 40, 41, 42, 43, 44, 45, 46, 47, 48, 49, 50, 51] (by decide +kernel) (by decide +kernel)
set_option maxRecDepth 20000 in
theorem gX6_failing_X6_goes : GoodIn wsX6_failing (wsV RX6 166 RX6 yX6_goes wsX6_goes) := goodIn_app (goodIn_of _ (by decide +kernel)) ggX6_failing_X6_goes
set_option maxRecDepth 20000 in
theorem ggX6_failing_X6_isRising : GoodIn wsX6_failing wsX6_isRising := goodIn_r _ [26, 7, 14, 15, 5, 16, 27, 28, 29, 30, 31, 32, 33, 34, 35, 36, 37, 38, 39, 40, 41, 42, 43, 44, 45, 46, 47, 48, 49, 50, 51] (by decide +kernel) (by decide +kernel)
set_option maxRecDepth 20000 in
theorem gX6_failing_X6_isRising : GoodIn wsX6_failing (wsV RX6 169 RX6 yX6_isRising wsX6_isRising) := goodIn_app (goodIn_of _ (by decide +kernel)) ggX6_failing_X6_isRising
theorem dX6_failing_0 : decode cX6_failing 0 = .ok (.iconst 0, 1) := by decide +kernel
theorem dX6_failing_1 : decode cX6_failing 1 = .ok (.istore_n 2, 1) := by decide +kernel
theorem dX6_failing_2 : decode cX6_failing 2 = .ok (.iload_n 2, 1) := by decide +kernel
theorem dX6_failing_3 : decode cX6_failing 3 = .ok (.aload_n 0, 1) := by decide +kernel
theorem dX6_failing_4 : decode cX6_failing 4 = .ok (.invokevirtual 162, 3) := by decide +kernel
theorem dX6_failing_7 : decode cX6_failing 7 = .ok (.if_icmp .ge 28, 3) := by decide +kernel
theorem dX6_failing_10 : decode cX6_failing 10 = .ok (.aload_n 0, 1) := by decide +kernel
theorem dX6_failing_11 : decode cX6_failing 11 = .ok (.aload_n 0, 1) := by decide +kernel
theorem dX6_failing_12 : decode cX6_failing 12 = .ok (.iload_n 2, 1) := by decide +kernel
theorem dX6_failing_13 : decode cX6_failing 13 = .ok (.aload_n 0, 1) := by decide +kernel
theorem dX6_failing_14 : decode cX6_failing 14 = .ok (.getfield 79, 3) := by decide +kernel
theorem dX6_failing_17 : decode cX6_failing 17 = .ok (.iload_n 1, 1) := by decide +kernel
theorem dX6_failing_18 : decode cX6_failing 18 = .ok (.invokevirtual 166, 3) := by decide +kernel
theorem dX6_failing_21 : decode cX6_failing 21 = .ok (.invokevirtual 169, 3) := by decide +kernel
theorem dX6_failing_24 : decode cX6_failing 24 = .ok (.ifCond .ne 5, 3) := by decide +kernel
theorem dX6_failing_27 : decode cX6_failing 27 = .ok (.iload_n 2, 1) := by decide +kernel
theorem dX6_failing_28 : decode cX6_failing 28 = .ok (.ireturn, 1) := by decide +kernel
theorem dX6_failing_29 : decode cX6_failing 29 = .ok (.iinc 2 1, 3) := by decide +kernel
theorem dX6_failing_32 : decode cX6_failing 32 = .ok (.goto (-30), 3) := by decide +kernel
theorem dX6_failing_35 : decode cX6_failing 35 = .ok (.iconst (-1), 1) := by decide +kernel
theorem dX6_failing_36 : decode cX6_failing 36 = .ok (.ireturn, 1) := by decide +kernel
set_option maxRecDepth 20000 in
theorem ggX6_out_X6_rows : GoodIn wsX6_out wsX6_rows := goodIn_r _ [6, 7, 31, 32, 33, 34, 35, 36, 37, 38, 39, 40, 41, 42, 43, 44, 45, 46, 47, 48, 49, 50, 51, 52, 53, 54, 55] (by decide +kernel) (by decide +kernel)
set_option maxRecDepth 20000 in
theorem gX6_out_X6_rows : GoodIn wsX6_out (wsV RX6 162 RX6 yX6_rows wsX6_rows) := goodIn_app (goodIn_of _ (by decide +kernel)) ggX6_out_X6_rows
set_option maxRecDepth 20000 in
theorem ggX6_out_X6_in : GoodIn wsX6_out wsX6_in := goodIn_r _ [10] (by decide +kernel) (by decide +kernel)
set_option maxRecDepth 20000 in
theorem gX6_out_X6_in : GoodIn wsX6_out (va_wsS RX6 82 yX6_in wsX6_in) := goodIn_app (goodIn_of _ (by decide +kernel)) ggX6_out_X6_in
set_option maxRecDepth 20000 in
theorem ggX6_out_X6_goes : GoodIn wsX6_out wsX6_goes := goodIn_r _ [14, 15, 16, 17, 18, 5, 19, 20, 21, 22, 23, 24, 25, 31, 32, 33, 34, 35, 36, 37, 38, 39, 40, 41, 42, 43, 44, 45, 46, 47, 48, 49, 50, 51, 52, 53, 54, 55] (by decide +kernel) (by decide +kernel)
set_option maxRecDepth 20000 in
theorem gX6_out_X6_goes : GoodIn wsX6_out (wsV RX6 166 RX6 yX6_goes wsX6_goes) := goodIn_app (goodIn_of _ (by decide +kernel)) ggX6_out_X6_goes
set_option maxRecDepth 20000 in
theorem ggX6_out_X6_found : GoodIn wsX6_out wsX6_found := goodIn_r _ [29, 30, 31, 32, 33, 34, 35, 36, 37, 38, 39, 40, 41, 42, 43, 44, 45, 46, 47, 48, 49, 50, 51, 52, 53, 54, 55] (by decide +kernel) (by decide +kernel)
set_option maxRecDepth 20000 in
theorem gX6_out_X6_found : GoodIn wsX6_out (wsV RX6 93 RX6 yX6_found wsX6_found) := goodIn_app (goodIn_of _ (by decide +kernel)) ggX6_out_X6_found
theorem dX6_out_0 : decode cX6_out 0 = .ok (.iload_n 1, 1) := by decide +kernel
theorem dX6_out_1 : decode cX6_out 1 = .ok (.iconst 0, 1) := by decide +kernel
theorem dX6_out_2 : decode cX6_out 2 = .ok (.aload_n 0, 1) := by decide +kernel
theorem dX6_out_3 : decode cX6_out 3 = .ok (.invokevirtual 162, 3) := by decide +kernel
theorem dX6_out_6 : decode cX6_out 6 = .ok (.iconst 1, 1) := by decide +kernel
theorem dX6_out_7 : decode cX6_out 7 = .ok (.isub, 1) := by decide +kernel
theorem dX6_out_8 : decode cX6_out 8 = .ok (.invokestatic 82, 3) := by decide +kernel
theorem dX6_out_11 : decode cX6_out 11 = .ok (.ifCond .eq 16, 3) := by decide +kernel
theorem dX6_out_14 : decode cX6_out 14 = .ok (.aload_n 0, 1) := by decide +kernel
theorem dX6_out_15 : decode cX6_out 15 = .ok (.iload_n 1, 1) := by decide +kernel
theorem dX6_out_16 : decode cX6_out 16 = .ok (.aload_n 0, 1) := by decide +kernel
theorem dX6_out_17 : decode cX6_out 17 = .ok (.getfield 79, 3) := by decide +kernel
theorem dX6_out_20 : decode cX6_out 20 = .ok (.iconst (-1), 1) := by decide +kernel
theorem dX6_out_21 : decode cX6_out 21 = .ok (.invokevirtual 166, 3) := by decide +kernel
theorem dX6_out_24 : decode cX6_out 24 = .ok (.goto 8, 3) := by decide +kernel
theorem dX6_out_27 : decode cX6_out 27 = .ok (.aload_n 0, 1) := by decide +kernel
theorem dX6_out_28 : decode cX6_out 28 = .ok (.iconst (-1), 1) := by decide +kernel
theorem dX6_out_29 : decode cX6_out 29 = .ok (.invokevirtual 93, 3) := by decide +kernel
theorem dX6_out_32 : decode cX6_out 32 = .ok (.ireturn, 1) := by decide +kernel
set_option maxRecDepth 20000 in
theorem ggX6_sorts_X6_failing : GoodIn wsX6_sorts wsX6_failing := goodIn_r _ [5, 6, 7, 8, 9, 4, 10, 11, 12, 13, 14, 15, 16, 17, 18, 19, 20, 21, 22, 23, 24, 25, 26, 27, 28, 29, 30, 31, 32, 33, 34, 35, 36, 37, 38, 39, 40, 41, 42, 43, 44, 45, 46, 47, 48, 49, 50, 51, 52, 53, 54, 55] (by decide +kernel) (by decide +kernel)
set_option maxRecDepth 20000 in
theorem gX6_sorts_X6_failing : GoodIn wsX6_sorts (wsV RX6 172 RX6 yX6_failing wsX6_failing) := goodIn_app (goodIn_of _ (by decide +kernel)) ggX6_sorts_X6_failing
theorem dX6_sorts_0 : decode cX6_sorts 0 = .ok (.aload_n 0, 1) := by decide +kernel
theorem dX6_sorts_1 : decode cX6_sorts 1 = .ok (.iconst (-1), 1) := by decide +kernel
theorem dX6_sorts_2 : decode cX6_sorts 2 = .ok (.invokevirtual 172, 3) := by decide +kernel
theorem dX6_sorts_5 : decode cX6_sorts 5 = .ok (.ifCond .ge 7, 3) := by decide +kernel
theorem dX6_sorts_8 : decode cX6_sorts 8 = .ok (.iconst 1, 1) := by decide +kernel
theorem dX6_sorts_9 : decode cX6_sorts 9 = .ok (.goto 4, 3) := by decide +kernel
theorem dX6_sorts_12 : decode cX6_sorts 12 = .ok (.iconst 0, 1) := by decide +kernel
theorem dX6_sorts_13 : decode cX6_sorts 13 = .ok (.ireturn, 1) := by decide +kernel
set_option maxRecDepth 20000 in
theorem ggX6_fails_X6_failing : GoodIn wsX6_fails wsX6_failing := goodIn_r _ [6, 1, 7, 8, 9, 5, 10, 11, 12, 13, 14, 15, 16, 17, 18, 19, 20, 21, 22, 23, 24, 25, 26, 27, 28, 29, 30, 36, 37, 38, 39, 40, 41, 42, 43, 44, 45, 46, 47, 48, 49, 50, 51, 52, 53, 54, 55, 56, 57, 58, 59, 60] (by decide +kernel) (by decide +kernel)
set_option maxRecDepth 20000 in
theorem gX6_fails_X6_failing : GoodIn wsX6_fails (wsV RX6 172 RX6 yX6_failing wsX6_failing) := goodIn_app (goodIn_of _ (by decide +kernel)) ggX6_fails_X6_failing
set_option maxRecDepth 20000 in
theorem ggX6_fails_X6_found : GoodIn wsX6_fails wsX6_found := goodIn_r _ [34, 35, 36, 37, 38, 39, 40, 41, 42, 43, 44, 45, 46, 47, 48, 49, 50, 51, 52, 53, 54, 55, 56, 57, 58, 59, 60] (by decide +kernel) (by decide +kernel)
set_option maxRecDepth 20000 in
theorem gX6_fails_X6_found : GoodIn wsX6_fails (wsV RX6 93 RX6 yX6_found wsX6_found) := goodIn_app (goodIn_of _ (by decide +kernel)) ggX6_fails_X6_found
set_option maxRecDepth 20000 in
theorem ggX6_fails_X6_rows : GoodIn wsX6_fails wsX6_rows := goodIn_r _ [10, 11, 36, 37, 38, 39, 40, 41, 42, 43, 44, 45, 46, 47, 48, 49, 50, 51, 52, 53, 54, 55, 56, 57, 58, 59, 60] (by decide +kernel) (by decide +kernel)
set_option maxRecDepth 20000 in
theorem gX6_fails_X6_rows : GoodIn wsX6_fails (wsV RX6 162 RX6 yX6_rows wsX6_rows) := goodIn_app (goodIn_of _ (by decide +kernel)) ggX6_fails_X6_rows
set_option maxRecDepth 20000 in
theorem ggX6_fails_X6_goes : GoodIn wsX6_fails wsX6_goes := goodIn_r _ [15, 16, 17, 18, 19, 5, 20, 21, 22, 23, 24, 25, 26, 36, 37, 38, 39, 40, 41, 42, 43, 44, 45, 46, 47, 48, 49, 50, 51, 52, 53, 54, 55, 56, 57, 58, 59, 60] (by decide +kernel) (by decide +kernel)
set_option maxRecDepth 20000 in
theorem gX6_fails_X6_goes : GoodIn wsX6_fails (wsV RX6 166 RX6 yX6_goes wsX6_goes) := goodIn_app (goodIn_of _ (by decide +kernel)) ggX6_fails_X6_goes
set_option maxRecDepth 20000 in
theorem ggX6_fails_X6_isRising : GoodIn wsX6_fails wsX6_isRising := goodIn_r _ [30, 11, 18, 19, 5, 20, 36, 37, 38, 39, 40, 41, 42, 43, 44, 45, 46, 47, 48, 49, 50, 51, 52, 53, 54, 55, 56, 57, 58, 59, 60] (by decide +kernel) (by decide +kernel)
set_option maxRecDepth 20000 in
theorem gX6_fails_X6_isRising : GoodIn wsX6_fails (wsV RX6 169 RX6 yX6_isRising wsX6_isRising) := goodIn_app (goodIn_of _ (by decide +kernel)) ggX6_fails_X6_isRising
theorem dX6_fails_0 : decode cX6_fails 0 = .ok (.iload_n 1, 1) := by decide +kernel
theorem dX6_fails_1 : decode cX6_fails 1 = .ok (.ifCond .eq 26, 3) := by decide +kernel
theorem dX6_fails_4 : decode cX6_fails 4 = .ok (.aload_n 0, 1) := by decide +kernel
theorem dX6_fails_5 : decode cX6_fails 5 = .ok (.iconst (-1), 1) := by decide +kernel
theorem dX6_fails_6 : decode cX6_fails 6 = .ok (.invokevirtual 172, 3) := by decide +kernel
theorem dX6_fails_9 : decode cX6_fails 9 = .ok (.ifCond .ge 12, 3) := by decide +kernel
theorem dX6_fails_12 : decode cX6_fails 12 = .ok (.aload_n 0, 1) := by decide +kernel
theorem dX6_fails_13 : decode cX6_fails 13 = .ok (.bipush (-6), 2) := by decide +kernel
theorem dX6_fails_15 : decode cX6_fails 15 = .ok (.invokevirtual 93, 3) := by decide +kernel
theorem dX6_fails_18 : decode cX6_fails 18 = .ok (.goto 8, 3) := by decide +kernel
theorem dX6_fails_21 : decode cX6_fails 21 = .ok (.aload_n 0, 1) := by decide +kernel
theorem dX6_fails_22 : decode cX6_fails 22 = .ok (.iconst (-1), 1) := by decide +kernel
theorem dX6_fails_23 : decode cX6_fails 23 = .ok (.invokevirtual 172, 3) := by decide +kernel
theorem dX6_fails_26 : decode cX6_fails 26 = .ok (.ireturn, 1) := by decide +kernel
theorem dX6_fails_27 : decode cX6_fails 27 = .ok (.iconst 0, 1) := by decide +kernel
theorem dX6_fails_28 : decode cX6_fails 28 = .ok (.istore_n 2, 1) := by decide +kernel
theorem dX6_fails_29 : decode cX6_fails 29 = .ok (.iconst 0, 1) := by decide +kernel
theorem dX6_fails_30 : decode cX6_fails 30 = .ok (.istore_n 3, 1) := by decide +kernel
theorem dX6_fails_31 : decode cX6_fails 31 = .ok (.iload_n 3, 1) := by decide +kernel
theorem dX6_fails_32 : decode cX6_fails 32 = .ok (.aload_n 0, 1) := by decide +kernel
theorem dX6_fails_33 : decode cX6_fails 33 = .ok (.invokevirtual 162, 3) := by decide +kernel
theorem dX6_fails_36 : decode cX6_fails 36 = .ok (.if_icmp .ge 34, 3) := by decide +kernel
theorem dX6_fails_39 : decode cX6_fails 39 = .ok (.iload_n 2, 1) := by decide +kernel
theorem dX6_fails_40 : decode cX6_fails 40 = .ok (.aload_n 0, 1) := by decide +kernel
theorem dX6_fails_41 : decode cX6_fails 41 = .ok (.aload_n 0, 1) := by decide +kernel
theorem dX6_fails_42 : decode cX6_fails 42 = .ok (.iload_n 3, 1) := by decide +kernel
theorem dX6_fails_43 : decode cX6_fails 43 = .ok (.aload_n 0, 1) := by decide +kernel
theorem dX6_fails_44 : decode cX6_fails 44 = .ok (.getfield 79, 3) := by decide +kernel
theorem dX6_fails_47 : decode cX6_fails 47 = .ok (.iconst (-1), 1) := by decide +kernel
theorem dX6_fails_48 : decode cX6_fails 48 = .ok (.invokevirtual 166, 3) := by decide +kernel
theorem dX6_fails_51 : decode cX6_fails 51 = .ok (.invokevirtual 169, 3) := by decide +kernel
theorem dX6_fails_54 : decode cX6_fails 54 = .ok (.ifCond .eq 7, 3) := by decide +kernel
theorem dX6_fails_57 : decode cX6_fails 57 = .ok (.iconst 0, 1) := by decide +kernel
theorem dX6_fails_58 : decode cX6_fails 58 = .ok (.goto 4, 3) := by decide +kernel
theorem dX6_fails_61 : decode cX6_fails 61 = .ok (.iconst 1, 1) := by decide +kernel
theorem dX6_fails_62 : decode cX6_fails 62 = .ok (.iadd, 1) := by decide +kernel
theorem dX6_fails_63 : decode cX6_fails 63 = .ok (.istore_n 2, 1) := by decide +kernel
theorem dX6_fails_64 : decode cX6_fails 64 = .ok (.iinc 3 1, 3) := by decide +kernel
theorem dX6_fails_67 : decode cX6_fails 67 = .ok (.goto (-36), 3) := by decide +kernel
theorem dX6_fails_70 : decode cX6_fails 70 = .ok (.iload_n 2, 1) := by decide +kernel
theorem dX6_fails_71 : decode cX6_fails 71 = .ok (.ireturn, 1) := by decide +kernel
set_option maxRecDepth 20000 in
theorem ggX6_merges_X6_in : GoodIn wsX6_merges wsX6_in := goodIn_r _ [6] (by decide +kernel) (by decide +kernel)
set_option maxRecDepth 20000 in
theorem gX6_merges_X6_in : GoodIn wsX6_merges (va_wsS RX6 82 yX6_in wsX6_in) := goodIn_app (goodIn_of _ (by decide +kernel)) ggX6_merges_X6_in
set_option maxRecDepth 20000 in
theorem ggX6_merges_X6_found : GoodIn wsX6_merges wsX6_found := goodIn_r _ [10, 11, 35, 36, 37, 38, 39, 40, 41, 42, 43, 44, 45, 46, 47, 48, 49, 50, 51, 52, 53, 54, 55, 56, 57, 58, 59] (by decide +kernel) (by decide +kernel)
set_option maxRecDepth 20000 in
theorem gX6_merges_X6_found : GoodIn wsX6_merges (wsV RX6 93 RX6 yX6_found wsX6_found) := goodIn_app (goodIn_of _ (by decide +kernel)) ggX6_merges_X6_found
set_option maxRecDepth 20000 in
theorem ggX6_merges_X6_rows : GoodIn wsX6_merges wsX6_rows := goodIn_r _ [15, 1, 35, 36, 37, 38, 39, 40, 41, 42, 43, 44, 45, 46, 47, 48, 49, 50, 51, 52, 53, 54, 55, 56, 57, 58, 59] (by decide +kernel) (by decide +kernel)
set_option maxRecDepth 20000 in
theorem gX6_merges_X6_rows : GoodIn wsX6_merges (wsV RX6 162 RX6 yX6_rows wsX6_rows) := goodIn_app (goodIn_of _ (by decide +kernel)) ggX6_merges_X6_rows
set_option maxRecDepth 20000 in
theorem ggX6_merges_X6_at : GoodIn wsX6_merges wsX6_at := goodIn_r _ [18] (by decide +kernel) (by decide +kernel)
set_option maxRecDepth 20000 in
theorem gX6_merges_X6_at : GoodIn wsX6_merges (va_wsS RX6 159 yX6_at wsX6_at) := goodIn_app (goodIn_of _ (by decide +kernel)) ggX6_merges_X6_at
set_option maxRecDepth 20000 in
theorem ggX6_merges_X6_goes : GoodIn wsX6_merges wsX6_goes := goodIn_r _ [22, 23, 24, 16, 17, 5, 18, 25, 26, 27, 28, 29, 30, 35, 36, 37, 38, 39, 40, 41, 42, 43, 44, 45, 46, 47, 48, 49, 50, 51, 52, 53, 54, 55, 56, 57, 58, 59] (by decide +kernel) (by decide +kernel)
set_option maxRecDepth 20000 in
theorem gX6_merges_X6_goes : GoodIn wsX6_merges (wsV RX6 166 RX6 yX6_goes wsX6_goes) := goodIn_app (goodIn_of _ (by decide +kernel)) ggX6_merges_X6_goes
set_option maxRecDepth 20000 in
theorem ggX6_merges_X6_isRising : GoodIn wsX6_merges wsX6_isRising := goodIn_r _ [34, 1, 16, 17, 5, 18, 35, 36, 37, 38, 39, 40, 41, 42, 43, 44, 45, 46, 47, 48, 49, 50, 51, 52, 53, 54, 55, 56, 57, 58, 59] (by decide +kernel) (by decide +kernel)
set_option maxRecDepth 20000 in
theorem gX6_merges_X6_isRising : GoodIn wsX6_merges (wsV RX6 169 RX6 yX6_isRising wsX6_isRising) := goodIn_app (goodIn_of _ (by decide +kernel)) ggX6_merges_X6_isRising
theorem dX6_merges_0 : decode cX6_merges 0 = .ok (.iload_n 1, 1) := by decide +kernel
theorem dX6_merges_1 : decode cX6_merges 1 = .ok (.iconst 1, 1) := by decide +kernel
theorem dX6_merges_2 : decode cX6_merges 2 = .ok (.aload_n 0, 1) := by decide +kernel
theorem dX6_merges_3 : decode cX6_merges 3 = .ok (.getfield 7, 3) := by decide +kernel
theorem dX6_merges_6 : decode cX6_merges 6 = .ok (.iconst 1, 1) := by decide +kernel
theorem dX6_merges_7 : decode cX6_merges 7 = .ok (.isub, 1) := by decide +kernel
theorem dX6_merges_8 : decode cX6_merges 8 = .ok (.invokestatic 82, 3) := by decide +kernel
theorem dX6_merges_11 : decode cX6_merges 11 = .ok (.ifCond .ne 9, 3) := by decide +kernel
theorem dX6_merges_14 : decode cX6_merges 14 = .ok (.aload_n 0, 1) := by decide +kernel
theorem dX6_merges_15 : decode cX6_merges 15 = .ok (.iconst (-1), 1) := by decide +kernel
theorem dX6_merges_16 : decode cX6_merges 16 = .ok (.invokevirtual 93, 3) := by decide +kernel
theorem dX6_merges_19 : decode cX6_merges 19 = .ok (.ireturn, 1) := by decide +kernel
theorem dX6_merges_20 : decode cX6_merges 20 = .ok (.iconst 0, 1) := by decide +kernel
theorem dX6_merges_21 : decode cX6_merges 21 = .ok (.istore_n 2, 1) := by decide +kernel
theorem dX6_merges_22 : decode cX6_merges 22 = .ok (.iload_n 2, 1) := by decide +kernel
theorem dX6_merges_23 : decode cX6_merges 23 = .ok (.aload_n 0, 1) := by decide +kernel
theorem dX6_merges_24 : decode cX6_merges 24 = .ok (.invokevirtual 162, 3) := by decide +kernel
theorem dX6_merges_27 : decode cX6_merges 27 = .ok (.if_icmp .ge 85, 3) := by decide +kernel
theorem dX6_merges_30 : decode cX6_merges 30 = .ok (.iconst 1, 1) := by decide +kernel
theorem dX6_merges_31 : decode cX6_merges 31 = .ok (.istore_n 3, 1) := by decide +kernel
theorem dX6_merges_32 : decode cX6_merges 32 = .ok (.iconst 1, 1) := by decide +kernel
theorem dX6_merges_33 : decode cX6_merges 33 = .ok (.istore 4, 2) := by decide +kernel
theorem dX6_merges_35 : decode cX6_merges 35 = .ok (.iload 4, 2) := by decide +kernel
theorem dX6_merges_37 : decode cX6_merges 37 = .ok (.aload_n 0, 1) := by decide +kernel
theorem dX6_merges_38 : decode cX6_merges 38 = .ok (.getfield 7, 3) := by decide +kernel
theorem dX6_merges_41 : decode cX6_merges 41 = .ok (.if_icmp .ge 42, 3) := by decide +kernel
theorem dX6_merges_44 : decode cX6_merges 44 = .ok (.iload_n 3, 1) := by decide +kernel
theorem dX6_merges_45 : decode cX6_merges 45 = .ok (.ifCond .eq 30, 3) := by decide +kernel
theorem dX6_merges_48 : decode cX6_merges 48 = .ok (.iload 4, 2) := by decide +kernel
theorem dX6_merges_50 : decode cX6_merges 50 = .ok (.iload_n 1, 1) := by decide +kernel
theorem dX6_merges_51 : decode cX6_merges 51 = .ok (.if_icmp .eq 20, 3) := by decide +kernel
theorem dX6_merges_54 : decode cX6_merges 54 = .ok (.iload_n 2, 1) := by decide +kernel
theorem dX6_merges_55 : decode cX6_merges 55 = .ok (.iload 4, 2) := by decide +kernel
theorem dX6_merges_57 : decode cX6_merges 57 = .ok (.iconst 1, 1) := by decide +kernel
theorem dX6_merges_58 : decode cX6_merges 58 = .ok (.isub, 1) := by decide +kernel
theorem dX6_merges_59 : decode cX6_merges 59 = .ok (.invokestatic 159, 3) := by decide +kernel
theorem dX6_merges_62 : decode cX6_merges 62 = .ok (.iload_n 2, 1) := by decide +kernel
theorem dX6_merges_63 : decode cX6_merges 63 = .ok (.iload 4, 2) := by decide +kernel
theorem dX6_merges_65 : decode cX6_merges 65 = .ok (.invokestatic 159, 3) := by decide +kernel
theorem dX6_merges_68 : decode cX6_merges 68 = .ok (.if_icmp .gt 7, 3) := by decide +kernel
theorem dX6_merges_71 : decode cX6_merges 71 = .ok (.iconst 1, 1) := by decide +kernel
theorem dX6_merges_72 : decode cX6_merges 72 = .ok (.goto 4, 3) := by decide +kernel
theorem dX6_merges_75 : decode cX6_merges 75 = .ok (.iconst 0, 1) := by decide +kernel
theorem dX6_merges_76 : decode cX6_merges 76 = .ok (.istore_n 3, 1) := by decide +kernel
theorem dX6_merges_77 : decode cX6_merges 77 = .ok (.iinc 4 1, 3) := by decide +kernel
theorem dX6_merges_80 : decode cX6_merges 80 = .ok (.goto (-45), 3) := by decide +kernel
theorem dX6_merges_83 : decode cX6_merges 83 = .ok (.iload_n 3, 1) := by decide +kernel
theorem dX6_merges_84 : decode cX6_merges 84 = .ok (.ifCond .eq 22, 3) := by decide +kernel
theorem dX6_merges_87 : decode cX6_merges 87 = .ok (.aload_n 0, 1) := by decide +kernel
theorem dX6_merges_88 : decode cX6_merges 88 = .ok (.aload_n 0, 1) := by decide +kernel
theorem dX6_merges_89 : decode cX6_merges 89 = .ok (.iload_n 2, 1) := by decide +kernel
theorem dX6_merges_90 : decode cX6_merges 90 = .ok (.aload_n 0, 1) := by decide +kernel
theorem dX6_merges_91 : decode cX6_merges 91 = .ok (.getfield 79, 3) := by decide +kernel
theorem dX6_merges_94 : decode cX6_merges 94 = .ok (.iconst (-1), 1) := by decide +kernel
theorem dX6_merges_95 : decode cX6_merges 95 = .ok (.invokevirtual 166, 3) := by decide +kernel
theorem dX6_merges_98 : decode cX6_merges 98 = .ok (.invokevirtual 169, 3) := by decide +kernel
theorem dX6_merges_101 : decode cX6_merges 101 = .ok (.ifCond .ne 5, 3) := by decide +kernel
theorem dX6_merges_104 : decode cX6_merges 104 = .ok (.iconst 0, 1) := by decide +kernel
theorem dX6_merges_105 : decode cX6_merges 105 = .ok (.ireturn, 1) := by decide +kernel
theorem dX6_merges_106 : decode cX6_merges 106 = .ok (.iinc 2 1, 3) := by decide +kernel
theorem dX6_merges_109 : decode cX6_merges 109 = .ok (.goto (-87), 3) := by decide +kernel
theorem dX6_merges_112 : decode cX6_merges 112 = .ok (.iconst 1, 1) := by decide +kernel
theorem dX6_merges_113 : decode cX6_merges 113 = .ok (.ireturn, 1) := by decide +kernel
set_option maxRecDepth 20000 in
theorem ggX6_isIdle_X6_rows : GoodIn wsX6_isIdle wsX6_rows := goodIn_r _ [8, 9, 22, 23, 24, 25, 26, 27, 28, 29, 30, 31, 32, 33, 34, 35, 36, 37, 38, 39, 40, 41, 42, 43, 44, 45, 46] (by decide +kernel) (by decide +kernel)
set_option maxRecDepth 20000 in
theorem gX6_isIdle_X6_rows : GoodIn wsX6_isIdle (wsV RX6 162 RX6 yX6_rows wsX6_rows) := goodIn_app (goodIn_of _ (by decide +kernel)) ggX6_isIdle_X6_rows
set_option maxRecDepth 20000 in
theorem ggX6_isIdle_X6_goes : GoodIn wsX6_isIdle wsX6_goes := goodIn_r _ [13, 2, 3, 14, 15, 7, 16, 17, 18, 19, 20, 1, 21, 22, 23, 24, 25, 26, 27, 28, 29, 30, 31, 32, 33, 34, 35, 36, 37, 38, 39, 40, 41, 42, 43, 44, 45, 46] (by decide +kernel) (by decide +kernel)
set_option maxRecDepth 20000 in
theorem gX6_isIdle_X6_goes : GoodIn wsX6_isIdle (wsV RX6 166 RX6 yX6_goes wsX6_goes) := goodIn_app (goodIn_of _ (by decide +kernel)) ggX6_isIdle_X6_goes
set_option maxRecDepth 20000 in
theorem ggX6_isIdle_X6_at : GoodIn wsX6_isIdle wsX6_at := goodIn_r _ [16] (by decide +kernel) (by decide +kernel)
set_option maxRecDepth 20000 in
theorem gX6_isIdle_X6_at : GoodIn wsX6_isIdle (va_wsS RX6 159 yX6_at wsX6_at) := goodIn_app (goodIn_of _ (by decide +kernel)) ggX6_isIdle_X6_at
set_option maxRecDepth 20000 in
theorem ggX6_isIdle_X6_changes : GoodIn wsX6_isIdle wsX6_changes := goodIn_r _ [20, 1, 21, 22, 23, 24, 25, 26, 27, 28, 29, 30, 31, 32, 33, 34, 35, 36, 37, 38, 39, 40, 41, 42, 43, 44, 45, 46] (by decide +kernel) (by decide +kernel)
set_option maxRecDepth 20000 in
theorem gX6_isIdle_X6_changes : GoodIn wsX6_isIdle (wsV RX6 155 RX6 yX6_changes wsX6_changes) := goodIn_app (goodIn_of _ (by decide +kernel)) ggX6_isIdle_X6_changes
theorem dX6_isIdle_0 : decode cX6_isIdle 0 = .ok (.aload_n 0, 1) := by decide +kernel
theorem dX6_isIdle_1 : decode cX6_isIdle 1 = .ok (.getfield 13, 3) := by decide +kernel
theorem dX6_isIdle_4 : decode cX6_isIdle 4 = .ok (.iload_n 1, 1) := by decide +kernel
theorem dX6_isIdle_5 : decode cX6_isIdle 5 = .ok (.iaload, 1) := by decide +kernel
theorem dX6_isIdle_6 : decode cX6_isIdle 6 = .ok (.iconst 3, 1) := by decide +kernel
theorem dX6_isIdle_7 : decode cX6_isIdle 7 = .ok (.if_icmp .ne 5, 3) := by decide +kernel
theorem dX6_isIdle_10 : decode cX6_isIdle 10 = .ok (.iconst 0, 1) := by decide +kernel
theorem dX6_isIdle_11 : decode cX6_isIdle 11 = .ok (.ireturn, 1) := by decide +kernel
theorem dX6_isIdle_12 : decode cX6_isIdle 12 = .ok (.iconst 0, 1) := by decide +kernel
theorem dX6_isIdle_13 : decode cX6_isIdle 13 = .ok (.istore_n 2, 1) := by decide +kernel
theorem dX6_isIdle_14 : decode cX6_isIdle 14 = .ok (.iload_n 2, 1) := by decide +kernel
theorem dX6_isIdle_15 : decode cX6_isIdle 15 = .ok (.aload_n 0, 1) := by decide +kernel
theorem dX6_isIdle_16 : decode cX6_isIdle 16 = .ok (.invokevirtual 162, 3) := by decide +kernel
theorem dX6_isIdle_19 : decode cX6_isIdle 19 = .ok (.if_icmp .ge 48, 3) := by decide +kernel
theorem dX6_isIdle_22 : decode cX6_isIdle 22 = .ok (.aload_n 0, 1) := by decide +kernel
theorem dX6_isIdle_23 : decode cX6_isIdle 23 = .ok (.iload_n 2, 1) := by decide +kernel
theorem dX6_isIdle_24 : decode cX6_isIdle 24 = .ok (.iload_n 1, 1) := by decide +kernel
theorem dX6_isIdle_25 : decode cX6_isIdle 25 = .ok (.iconst (-1), 1) := by decide +kernel
theorem dX6_isIdle_26 : decode cX6_isIdle 26 = .ok (.invokevirtual 166, 3) := by decide +kernel
theorem dX6_isIdle_29 : decode cX6_isIdle 29 = .ok (.istore_n 3, 1) := by decide +kernel
theorem dX6_isIdle_30 : decode cX6_isIdle 30 = .ok (.aload_n 0, 1) := by decide +kernel
theorem dX6_isIdle_31 : decode cX6_isIdle 31 = .ok (.iload_n 1, 1) := by decide +kernel
theorem dX6_isIdle_32 : decode cX6_isIdle 32 = .ok (.iload_n 3, 1) := by decide +kernel
theorem dX6_isIdle_33 : decode cX6_isIdle 33 = .ok (.aload_n 0, 1) := by decide +kernel
theorem dX6_isIdle_34 : decode cX6_isIdle 34 = .ok (.getfield 17, 3) := by decide +kernel
theorem dX6_isIdle_37 : decode cX6_isIdle 37 = .ok (.iload_n 1, 1) := by decide +kernel
theorem dX6_isIdle_38 : decode cX6_isIdle 38 = .ok (.iaload, 1) := by decide +kernel
theorem dX6_isIdle_39 : decode cX6_isIdle 39 = .ok (.invokestatic 159, 3) := by decide +kernel
theorem dX6_isIdle_42 : decode cX6_isIdle 42 = .ok (.iload_n 3, 1) := by decide +kernel
theorem dX6_isIdle_43 : decode cX6_isIdle 43 = .ok (.aload_n 0, 1) := by decide +kernel
theorem dX6_isIdle_44 : decode cX6_isIdle 44 = .ok (.getfield 20, 3) := by decide +kernel
theorem dX6_isIdle_47 : decode cX6_isIdle 47 = .ok (.iload_n 1, 1) := by decide +kernel
theorem dX6_isIdle_48 : decode cX6_isIdle 48 = .ok (.iaload, 1) := by decide +kernel
theorem dX6_isIdle_49 : decode cX6_isIdle 49 = .ok (.invokestatic 159, 3) := by decide +kernel
theorem dX6_isIdle_52 : decode cX6_isIdle 52 = .ok (.isub, 1) := by decide +kernel
theorem dX6_isIdle_53 : decode cX6_isIdle 53 = .ok (.invokevirtual 155, 3) := by decide +kernel
theorem dX6_isIdle_56 : decode cX6_isIdle 56 = .ok (.ifCond .eq 5, 3) := by decide +kernel
theorem dX6_isIdle_59 : decode cX6_isIdle 59 = .ok (.iconst 0, 1) := by decide +kernel
theorem dX6_isIdle_60 : decode cX6_isIdle 60 = .ok (.ireturn, 1) := by decide +kernel
theorem dX6_isIdle_61 : decode cX6_isIdle 61 = .ok (.iinc 2 1, 3) := by decide +kernel
theorem dX6_isIdle_64 : decode cX6_isIdle 64 = .ok (.goto (-50), 3) := by decide +kernel
theorem dX6_isIdle_67 : decode cX6_isIdle 67 = .ok (.iconst 1, 1) := by decide +kernel
theorem dX6_isIdle_68 : decode cX6_isIdle 68 = .ok (.ireturn, 1) := by decide +kernel
set_option maxRecDepth 20000 in
theorem ggX6_idle_X6_isComparer : GoodIn wsX6_idle wsX6_isComparer := goodIn_r _ [5, 6, 7, 8, 4, 9, 39, 40, 41, 42, 43, 44, 45, 46, 47, 48, 49, 50, 51, 52, 53, 54, 55, 56, 57, 58, 59, 60, 61, 62, 63] (by decide +kernel) (by decide +kernel)
set_option maxRecDepth 20000 in
theorem gX6_idle_X6_isComparer : GoodIn wsX6_idle (wsV RX6 111 RX6 yX6_isComparer wsX6_isComparer) := goodIn_app (goodIn_of _ (by decide +kernel)) ggX6_idle_X6_isComparer
set_option maxRecDepth 20000 in
theorem ggX6_idle_X6_found : GoodIn wsX6_idle wsX6_found := goodIn_r _ [13, 14, 39, 40, 41, 42, 43, 44, 45, 46, 47, 48, 49, 50, 51, 52, 53, 54, 55, 56, 57, 58, 59, 60, 61, 62, 63] (by decide +kernel) (by decide +kernel)
set_option maxRecDepth 20000 in
theorem gX6_idle_X6_found : GoodIn wsX6_idle (wsV RX6 93 RX6 yX6_found wsX6_found) := goodIn_app (goodIn_of _ (by decide +kernel)) ggX6_idle_X6_found
set_option maxRecDepth 20000 in
theorem ggX6_idle_X6_isIdle : GoodIn wsX6_idle wsX6_isIdle := goodIn_r _ [18, 19, 20, 21, 22, 23, 24, 4, 25, 26, 27, 28, 29, 30, 31, 32, 33, 34, 35, 36, 37, 38, 39, 40, 41, 42, 43, 44, 45, 46, 47, 48, 49, 50, 51, 52, 53, 54, 55, 56, 57, 58, 59, 60, 61, 62, 63] (by decide +kernel) (by decide +kernel)
set_option maxRecDepth 20000 in
theorem gX6_idle_X6_isIdle : GoodIn wsX6_idle (wsV RX6 175 RX6 yX6_isIdle wsX6_isIdle) := goodIn_app (goodIn_of _ (by decide +kernel)) ggX6_idle_X6_isIdle
theorem dX6_idle_0 : decode cX6_idle 0 = .ok (.aload_n 0, 1) := by decide +kernel
theorem dX6_idle_1 : decode cX6_idle 1 = .ok (.iload_n 1, 1) := by decide +kernel
theorem dX6_idle_2 : decode cX6_idle 2 = .ok (.invokevirtual 111, 3) := by decide +kernel
theorem dX6_idle_5 : decode cX6_idle 5 = .ok (.ifCond .ne 11, 3) := by decide +kernel
theorem dX6_idle_8 : decode cX6_idle 8 = .ok (.aload_n 0, 1) := by decide +kernel
theorem dX6_idle_9 : decode cX6_idle 9 = .ok (.iconst (-1), 1) := by decide +kernel
theorem dX6_idle_10 : decode cX6_idle 10 = .ok (.invokevirtual 93, 3) := by decide +kernel
theorem dX6_idle_13 : decode cX6_idle 13 = .ok (.goto 16, 3) := by decide +kernel
theorem dX6_idle_16 : decode cX6_idle 16 = .ok (.aload_n 0, 1) := by decide +kernel
theorem dX6_idle_17 : decode cX6_idle 17 = .ok (.iload_n 1, 1) := by decide +kernel
theorem dX6_idle_18 : decode cX6_idle 18 = .ok (.invokevirtual 175, 3) := by decide +kernel
theorem dX6_idle_21 : decode cX6_idle 21 = .ok (.ifCond .eq 7, 3) := by decide +kernel
theorem dX6_idle_24 : decode cX6_idle 24 = .ok (.iconst 1, 1) := by decide +kernel
theorem dX6_idle_25 : decode cX6_idle 25 = .ok (.goto 4, 3) := by decide +kernel
theorem dX6_idle_28 : decode cX6_idle 28 = .ok (.iconst 0, 1) := by decide +kernel
theorem dX6_idle_29 : decode cX6_idle 29 = .ok (.ireturn, 1) := by decide +kernel
set_option maxRecDepth 20000 in
theorem ggX6_drop_X6_begins : GoodIn wsX6_drop wsX6_begins := goodIn_r _ [11, 12, 13, 14, 15, 16, 17, 18, 19, 20, 21, 10, 22, 23, 1, 3, 4, 5, 6, 43, 44, 45, 46, 47, 48, 49, 50, 51, 52, 53, 54, 55, 56, 57, 58, 59, 60, 61, 62, 63, 64, 65, 66, 67] (by decide +kernel) (by decide +kernel)
set_option maxRecDepth 20000 in
theorem gX6_drop_X6_begins : GoodIn wsX6_drop (wsV RX6 100 RX6 yX6_begins wsX6_begins) := goodIn_app (goodIn_of _ (by decide +kernel)) ggX6_drop_X6_begins
set_option maxRecDepth 20000 in
theorem ggX6_drop_X6_isIdle : GoodIn wsX6_drop wsX6_isIdle := goodIn_r _ [27, 3, 4, 5, 28, 29, 30, 10, 31, 23, 32, 33, 34, 35, 36, 37, 38, 39, 40, 41, 42, 6, 43, 44, 45, 46, 47, 48, 49, 50, 51, 52, 53, 54, 55, 56, 57, 58, 59, 60, 61, 62, 63, 64, 65, 66, 67] (by decide +kernel) (by decide +kernel)
set_option maxRecDepth 20000 in
theorem gX6_drop_X6_isIdle : GoodIn wsX6_drop (wsV RX6 175 RX6 yX6_isIdle wsX6_isIdle) := goodIn_app (goodIn_of _ (by decide +kernel)) ggX6_drop_X6_isIdle
theorem dX6_drop_0 : decode cX6_drop 0 = .ok (.aload_n 0, 1) := by decide +kernel
theorem dX6_drop_1 : decode cX6_drop 1 = .ok (.invokevirtual 100, 3) := by decide +kernel
theorem dX6_drop_4 : decode cX6_drop 4 = .ok (.iconst 0, 1) := by decide +kernel
theorem dX6_drop_5 : decode cX6_drop 5 = .ok (.istore_n 1, 1) := by decide +kernel
theorem dX6_drop_6 : decode cX6_drop 6 = .ok (.iload_n 1, 1) := by decide +kernel
theorem dX6_drop_7 : decode cX6_drop 7 = .ok (.aload_n 0, 1) := by decide +kernel
theorem dX6_drop_8 : decode cX6_drop 8 = .ok (.getfield 79, 3) := by decide +kernel
theorem dX6_drop_11 : decode cX6_drop 11 = .ok (.if_icmp .ge 20, 3) := by decide +kernel
theorem dX6_drop_14 : decode cX6_drop 14 = .ok (.aload_n 0, 1) := by decide +kernel
theorem dX6_drop_15 : decode cX6_drop 15 = .ok (.getfield 64, 3) := by decide +kernel
theorem dX6_drop_18 : decode cX6_drop 18 = .ok (.iload_n 1, 1) := by decide +kernel
theorem dX6_drop_19 : decode cX6_drop 19 = .ok (.aload_n 0, 1) := by decide +kernel
theorem dX6_drop_20 : decode cX6_drop 20 = .ok (.iload_n 1, 1) := by decide +kernel
theorem dX6_drop_21 : decode cX6_drop 21 = .ok (.invokevirtual 175, 3) := by decide +kernel
theorem dX6_drop_24 : decode cX6_drop 24 = .ok (.bastore, 1) := by decide +kernel
theorem dX6_drop_25 : decode cX6_drop 25 = .ok (.iinc 1 1, 3) := by decide +kernel
theorem dX6_drop_28 : decode cX6_drop 28 = .ok (.goto (-22), 3) := by decide +kernel
theorem dX6_drop_31 : decode cX6_drop 31 = .ok (.iconst 0, 1) := by decide +kernel
theorem dX6_drop_32 : decode cX6_drop 32 = .ok (.istore_n 1, 1) := by decide +kernel
theorem dX6_drop_33 : decode cX6_drop 33 = .ok (.iconst 0, 1) := by decide +kernel
theorem dX6_drop_34 : decode cX6_drop 34 = .ok (.istore_n 2, 1) := by decide +kernel
theorem dX6_drop_35 : decode cX6_drop 35 = .ok (.iload_n 2, 1) := by decide +kernel
theorem dX6_drop_36 : decode cX6_drop 36 = .ok (.aload_n 0, 1) := by decide +kernel
theorem dX6_drop_37 : decode cX6_drop 37 = .ok (.getfield 79, 3) := by decide +kernel
theorem dX6_drop_40 : decode cX6_drop 40 = .ok (.if_icmp .ge 72, 3) := by decide +kernel
theorem dX6_drop_43 : decode cX6_drop 43 = .ok (.aload_n 0, 1) := by decide +kernel
theorem dX6_drop_44 : decode cX6_drop 44 = .ok (.getfield 64, 3) := by decide +kernel
theorem dX6_drop_47 : decode cX6_drop 47 = .ok (.iload_n 2, 1) := by decide +kernel
theorem dX6_drop_48 : decode cX6_drop 48 = .ok (.baload, 1) := by decide +kernel
theorem dX6_drop_49 : decode cX6_drop 49 = .ok (.ifCond .eq 6, 3) := by decide +kernel
theorem dX6_drop_52 : decode cX6_drop 52 = .ok (.goto 54, 3) := by decide +kernel
theorem dX6_drop_55 : decode cX6_drop 55 = .ok (.aload_n 0, 1) := by decide +kernel
theorem dX6_drop_56 : decode cX6_drop 56 = .ok (.getfield 13, 3) := by decide +kernel
theorem dX6_drop_59 : decode cX6_drop 59 = .ok (.iload_n 1, 1) := by decide +kernel
theorem dX6_drop_60 : decode cX6_drop 60 = .ok (.aload_n 0, 1) := by decide +kernel
theorem dX6_drop_61 : decode cX6_drop 61 = .ok (.getfield 13, 3) := by decide +kernel
theorem dX6_drop_64 : decode cX6_drop 64 = .ok (.iload_n 2, 1) := by decide +kernel
theorem dX6_drop_65 : decode cX6_drop 65 = .ok (.iaload, 1) := by decide +kernel
theorem dX6_drop_66 : decode cX6_drop 66 = .ok (.iastore, 1) := by decide +kernel
theorem dX6_drop_67 : decode cX6_drop 67 = .ok (.aload_n 0, 1) := by decide +kernel
theorem dX6_drop_68 : decode cX6_drop 68 = .ok (.getfield 17, 3) := by decide +kernel
theorem dX6_drop_71 : decode cX6_drop 71 = .ok (.iload_n 1, 1) := by decide +kernel
theorem dX6_drop_72 : decode cX6_drop 72 = .ok (.aload_n 0, 1) := by decide +kernel
theorem dX6_drop_73 : decode cX6_drop 73 = .ok (.getfield 17, 3) := by decide +kernel
theorem dX6_drop_76 : decode cX6_drop 76 = .ok (.iload_n 2, 1) := by decide +kernel
theorem dX6_drop_77 : decode cX6_drop 77 = .ok (.iaload, 1) := by decide +kernel
theorem dX6_drop_78 : decode cX6_drop 78 = .ok (.iastore, 1) := by decide +kernel
theorem dX6_drop_79 : decode cX6_drop 79 = .ok (.aload_n 0, 1) := by decide +kernel
theorem dX6_drop_80 : decode cX6_drop 80 = .ok (.getfield 20, 3) := by decide +kernel
theorem dX6_drop_83 : decode cX6_drop 83 = .ok (.iload_n 1, 1) := by decide +kernel
theorem dX6_drop_84 : decode cX6_drop 84 = .ok (.aload_n 0, 1) := by decide +kernel
theorem dX6_drop_85 : decode cX6_drop 85 = .ok (.getfield 20, 3) := by decide +kernel
theorem dX6_drop_88 : decode cX6_drop 88 = .ok (.iload_n 2, 1) := by decide +kernel
theorem dX6_drop_89 : decode cX6_drop 89 = .ok (.iaload, 1) := by decide +kernel
theorem dX6_drop_90 : decode cX6_drop 90 = .ok (.iastore, 1) := by decide +kernel
theorem dX6_drop_91 : decode cX6_drop 91 = .ok (.aload_n 0, 1) := by decide +kernel
theorem dX6_drop_92 : decode cX6_drop 92 = .ok (.getfield 23, 3) := by decide +kernel
theorem dX6_drop_95 : decode cX6_drop 95 = .ok (.iload_n 1, 1) := by decide +kernel
theorem dX6_drop_96 : decode cX6_drop 96 = .ok (.aload_n 0, 1) := by decide +kernel
theorem dX6_drop_97 : decode cX6_drop 97 = .ok (.getfield 23, 3) := by decide +kernel
theorem dX6_drop_100 : decode cX6_drop 100 = .ok (.iload_n 2, 1) := by decide +kernel
theorem dX6_drop_101 : decode cX6_drop 101 = .ok (.baload, 1) := by decide +kernel
theorem dX6_drop_102 : decode cX6_drop 102 = .ok (.bastore, 1) := by decide +kernel
theorem dX6_drop_103 : decode cX6_drop 103 = .ok (.iinc 1 1, 3) := by decide +kernel
theorem dX6_drop_106 : decode cX6_drop 106 = .ok (.iinc 2 1, 3) := by decide +kernel
theorem dX6_drop_109 : decode cX6_drop 109 = .ok (.goto (-74), 3) := by decide +kernel
theorem dX6_drop_112 : decode cX6_drop 112 = .ok (.aload_n 0, 1) := by decide +kernel
theorem dX6_drop_113 : decode cX6_drop 113 = .ok (.getfield 79, 3) := by decide +kernel
theorem dX6_drop_116 : decode cX6_drop 116 = .ok (.iload_n 1, 1) := by decide +kernel
theorem dX6_drop_117 : decode cX6_drop 117 = .ok (.isub, 1) := by decide +kernel
theorem dX6_drop_118 : decode cX6_drop 118 = .ok (.istore_n 2, 1) := by decide +kernel
theorem dX6_drop_119 : decode cX6_drop 119 = .ok (.aload_n 0, 1) := by decide +kernel
theorem dX6_drop_120 : decode cX6_drop 120 = .ok (.iload_n 1, 1) := by decide +kernel
theorem dX6_drop_121 : decode cX6_drop 121 = .ok (.putfield 79, 3) := by decide +kernel
theorem dX6_drop_124 : decode cX6_drop 124 = .ok (.iload_n 2, 1) := by decide +kernel
theorem dX6_drop_125 : decode cX6_drop 125 = .ok (.ireturn, 1) := by decide +kernel
set_option maxRecDepth 20000 in
theorem ggX6_turn_X6_found : GoodIn wsX6_turn wsX6_found := goodIn_r _ [11, 12, 29, 30, 31, 32, 33, 34, 35, 36, 37, 38, 39, 40, 41, 42, 43, 44, 45, 46, 47, 48, 49, 50, 51, 52, 53] (by decide +kernel) (by decide +kernel)
set_option maxRecDepth 20000 in
theorem gX6_turn_X6_found : GoodIn wsX6_turn (wsV RX6 93 RX6 yX6_found wsX6_found) := goodIn_app (goodIn_of _ (by decide +kernel)) ggX6_turn_X6_found
set_option maxRecDepth 20000 in
theorem ggX6_turn_X6_begins : GoodIn wsX6_turn wsX6_begins := goodIn_r _ [16, 17, 18, 19, 20, 21, 22, 23, 24, 25, 26, 10, 27, 28, 1, 2, 5, 6, 3, 29, 30, 31, 32, 33, 34, 35, 36, 37, 38, 39, 40, 41, 42, 43, 44, 45, 46, 47, 48, 49, 50, 51, 52, 53] (by decide +kernel) (by decide +kernel)
set_option maxRecDepth 20000 in
theorem gX6_turn_X6_begins : GoodIn wsX6_turn (wsV RX6 100 RX6 yX6_begins wsX6_begins) := goodIn_app (goodIn_of _ (by decide +kernel)) ggX6_turn_X6_begins
theorem dX6_turn_0 : decode cX6_turn 0 = .ok (.iconst 0, 1) := by decide +kernel
theorem dX6_turn_1 : decode cX6_turn 1 = .ok (.istore_n 1, 1) := by decide +kernel
theorem dX6_turn_2 : decode cX6_turn 2 = .ok (.iload_n 1, 1) := by decide +kernel
theorem dX6_turn_3 : decode cX6_turn 3 = .ok (.aload_n 0, 1) := by decide +kernel
theorem dX6_turn_4 : decode cX6_turn 4 = .ok (.getfield 79, 3) := by decide +kernel
theorem dX6_turn_7 : decode cX6_turn 7 = .ok (.if_icmp .ge 45, 3) := by decide +kernel
theorem dX6_turn_10 : decode cX6_turn 10 = .ok (.aload_n 0, 1) := by decide +kernel
theorem dX6_turn_11 : decode cX6_turn 11 = .ok (.getfield 13, 3) := by decide +kernel
theorem dX6_turn_14 : decode cX6_turn 14 = .ok (.iload_n 1, 1) := by decide +kernel
theorem dX6_turn_15 : decode cX6_turn 15 = .ok (.iaload, 1) := by decide +kernel
theorem dX6_turn_16 : decode cX6_turn 16 = .ok (.iconst 2, 1) := by decide +kernel
theorem dX6_turn_17 : decode cX6_turn 17 = .ok (.if_icmp .eq 22, 3) := by decide +kernel
theorem dX6_turn_20 : decode cX6_turn 20 = .ok (.aload_n 0, 1) := by decide +kernel
theorem dX6_turn_21 : decode cX6_turn 21 = .ok (.getfield 13, 3) := by decide +kernel
theorem dX6_turn_24 : decode cX6_turn 24 = .ok (.iload_n 1, 1) := by decide +kernel
theorem dX6_turn_25 : decode cX6_turn 25 = .ok (.iaload, 1) := by decide +kernel
theorem dX6_turn_26 : decode cX6_turn 26 = .ok (.iconst 4, 1) := by decide +kernel
theorem dX6_turn_27 : decode cX6_turn 27 = .ok (.if_icmp .ne 19, 3) := by decide +kernel
theorem dX6_turn_30 : decode cX6_turn 30 = .ok (.aload_n 0, 1) := by decide +kernel
theorem dX6_turn_31 : decode cX6_turn 31 = .ok (.getfield 23, 3) := by decide +kernel
theorem dX6_turn_34 : decode cX6_turn 34 = .ok (.iload_n 1, 1) := by decide +kernel
theorem dX6_turn_35 : decode cX6_turn 35 = .ok (.baload, 1) := by decide +kernel
theorem dX6_turn_36 : decode cX6_turn 36 = .ok (.ifCond .ne 10, 3) := by decide +kernel
theorem dX6_turn_39 : decode cX6_turn 39 = .ok (.aload_n 0, 1) := by decide +kernel
theorem dX6_turn_40 : decode cX6_turn 40 = .ok (.bipush (-7), 2) := by decide +kernel
theorem dX6_turn_42 : decode cX6_turn 42 = .ok (.invokevirtual 93, 3) := by decide +kernel
theorem dX6_turn_45 : decode cX6_turn 45 = .ok (.ireturn, 1) := by decide +kernel
theorem dX6_turn_46 : decode cX6_turn 46 = .ok (.iinc 1 1, 3) := by decide +kernel
theorem dX6_turn_49 : decode cX6_turn 49 = .ok (.goto (-47), 3) := by decide +kernel
theorem dX6_turn_52 : decode cX6_turn 52 = .ok (.aload_n 0, 1) := by decide +kernel
theorem dX6_turn_53 : decode cX6_turn 53 = .ok (.invokevirtual 100, 3) := by decide +kernel
theorem dX6_turn_56 : decode cX6_turn 56 = .ok (.iconst 0, 1) := by decide +kernel
theorem dX6_turn_57 : decode cX6_turn 57 = .ok (.istore_n 1, 1) := by decide +kernel
theorem dX6_turn_58 : decode cX6_turn 58 = .ok (.iload_n 1, 1) := by decide +kernel
theorem dX6_turn_59 : decode cX6_turn 59 = .ok (.bipush 8, 2) := by decide +kernel
theorem dX6_turn_61 : decode cX6_turn 61 = .ok (.if_icmp .ge 16, 3) := by decide +kernel
theorem dX6_turn_64 : decode cX6_turn 64 = .ok (.aload_n 0, 1) := by decide +kernel
theorem dX6_turn_65 : decode cX6_turn 65 = .ok (.getfield 67, 3) := by decide +kernel
theorem dX6_turn_68 : decode cX6_turn 68 = .ok (.iload_n 1, 1) := by decide +kernel
theorem dX6_turn_69 : decode cX6_turn 69 = .ok (.iload_n 1, 1) := by decide +kernel
theorem dX6_turn_70 : decode cX6_turn 70 = .ok (.iastore, 1) := by decide +kernel
theorem dX6_turn_71 : decode cX6_turn 71 = .ok (.iinc 1 1, 3) := by decide +kernel
theorem dX6_turn_74 : decode cX6_turn 74 = .ok (.goto (-16), 3) := by decide +kernel
theorem dX6_turn_77 : decode cX6_turn 77 = .ok (.iconst 0, 1) := by decide +kernel
theorem dX6_turn_78 : decode cX6_turn 78 = .ok (.istore_n 1, 1) := by decide +kernel
theorem dX6_turn_79 : decode cX6_turn 79 = .ok (.iconst 0, 1) := by decide +kernel
theorem dX6_turn_80 : decode cX6_turn 80 = .ok (.istore_n 2, 1) := by decide +kernel
theorem dX6_turn_81 : decode cX6_turn 81 = .ok (.iload_n 2, 1) := by decide +kernel
theorem dX6_turn_82 : decode cX6_turn 82 = .ok (.aload_n 0, 1) := by decide +kernel
theorem dX6_turn_83 : decode cX6_turn 83 = .ok (.getfield 79, 3) := by decide +kernel
theorem dX6_turn_86 : decode cX6_turn 86 = .ok (.if_icmp .ge 157, 3) := by decide +kernel
theorem dX6_turn_89 : decode cX6_turn 89 = .ok (.aload_n 0, 1) := by decide +kernel
theorem dX6_turn_90 : decode cX6_turn 90 = .ok (.getfield 13, 3) := by decide +kernel
theorem dX6_turn_93 : decode cX6_turn 93 = .ok (.iload_n 2, 1) := by decide +kernel
theorem dX6_turn_94 : decode cX6_turn 94 = .ok (.iaload, 1) := by decide +kernel
theorem dX6_turn_95 : decode cX6_turn 95 = .ok (.istore_n 3, 1) := by decide +kernel
theorem dX6_turn_96 : decode cX6_turn 96 = .ok (.aload_n 0, 1) := by decide +kernel
theorem dX6_turn_97 : decode cX6_turn 97 = .ok (.getfield 17, 3) := by decide +kernel
theorem dX6_turn_100 : decode cX6_turn 100 = .ok (.iload_n 2, 1) := by decide +kernel
theorem dX6_turn_101 : decode cX6_turn 101 = .ok (.iaload, 1) := by decide +kernel
theorem dX6_turn_102 : decode cX6_turn 102 = .ok (.istore 4, 2) := by decide +kernel
theorem dX6_turn_104 : decode cX6_turn 104 = .ok (.aload_n 0, 1) := by decide +kernel
theorem dX6_turn_105 : decode cX6_turn 105 = .ok (.getfield 20, 3) := by decide +kernel
theorem dX6_turn_108 : decode cX6_turn 108 = .ok (.iload_n 2, 1) := by decide +kernel
theorem dX6_turn_109 : decode cX6_turn 109 = .ok (.iaload, 1) := by decide +kernel
theorem dX6_turn_110 : decode cX6_turn 110 = .ok (.istore 5, 2) := by decide +kernel
theorem dX6_turn_112 : decode cX6_turn 112 = .ok (.aload_n 0, 1) := by decide +kernel
theorem dX6_turn_113 : decode cX6_turn 113 = .ok (.getfield 67, 3) := by decide +kernel
theorem dX6_turn_116 : decode cX6_turn 116 = .ok (.iload 4, 2) := by decide +kernel
theorem dX6_turn_118 : decode cX6_turn 118 = .ok (.iaload, 1) := by decide +kernel
theorem dX6_turn_119 : decode cX6_turn 119 = .ok (.istore 6, 2) := by decide +kernel
theorem dX6_turn_121 : decode cX6_turn 121 = .ok (.aload_n 0, 1) := by decide +kernel
theorem dX6_turn_122 : decode cX6_turn 122 = .ok (.getfield 67, 3) := by decide +kernel
theorem dX6_turn_125 : decode cX6_turn 125 = .ok (.iload 5, 2) := by decide +kernel
theorem dX6_turn_127 : decode cX6_turn 127 = .ok (.iaload, 1) := by decide +kernel
theorem dX6_turn_128 : decode cX6_turn 128 = .ok (.istore 7, 2) := by decide +kernel
theorem dX6_turn_130 : decode cX6_turn 130 = .ok (.iload_n 3, 1) := by decide +kernel
theorem dX6_turn_131 : decode cX6_turn 131 = .ok (.iconst 3, 1) := by decide +kernel
theorem dX6_turn_132 : decode cX6_turn 132 = .ok (.if_icmp .eq 60, 3) := by decide +kernel
theorem dX6_turn_135 : decode cX6_turn 135 = .ok (.aload_n 0, 1) := by decide +kernel
theorem dX6_turn_136 : decode cX6_turn 136 = .ok (.getfield 13, 3) := by decide +kernel
theorem dX6_turn_139 : decode cX6_turn 139 = .ok (.iload_n 1, 1) := by decide +kernel
theorem dX6_turn_140 : decode cX6_turn 140 = .ok (.iconst 0, 1) := by decide +kernel
theorem dX6_turn_141 : decode cX6_turn 141 = .ok (.iastore, 1) := by decide +kernel
theorem dX6_turn_142 : decode cX6_turn 142 = .ok (.aload_n 0, 1) := by decide +kernel
theorem dX6_turn_143 : decode cX6_turn 143 = .ok (.getfield 17, 3) := by decide +kernel
theorem dX6_turn_146 : decode cX6_turn 146 = .ok (.iload_n 1, 1) := by decide +kernel
theorem dX6_turn_147 : decode cX6_turn 147 = .ok (.iload 6, 2) := by decide +kernel
theorem dX6_turn_149 : decode cX6_turn 149 = .ok (.iload 7, 2) := by decide +kernel
theorem dX6_turn_151 : decode cX6_turn 151 = .ok (.if_icmp .ge 8, 3) := by decide +kernel
theorem dX6_turn_154 : decode cX6_turn 154 = .ok (.iload 6, 2) := by decide +kernel
theorem dX6_turn_156 : decode cX6_turn 156 = .ok (.goto 5, 3) := by decide +kernel
theorem dX6_turn_159 : decode cX6_turn 159 = .ok (.iload 7, 2) := by decide +kernel
theorem dX6_turn_161 : decode cX6_turn 161 = .ok (.iastore, 1) := by decide +kernel
theorem dX6_turn_162 : decode cX6_turn 162 = .ok (.aload_n 0, 1) := by decide +kernel
theorem dX6_turn_163 : decode cX6_turn 163 = .ok (.getfield 20, 3) := by decide +kernel
theorem dX6_turn_166 : decode cX6_turn 166 = .ok (.iload_n 1, 1) := by decide +kernel
theorem dX6_turn_167 : decode cX6_turn 167 = .ok (.iload 6, 2) := by decide +kernel
theorem dX6_turn_169 : decode cX6_turn 169 = .ok (.iload 7, 2) := by decide +kernel
theorem dX6_turn_171 : decode cX6_turn 171 = .ok (.if_icmp .ge 8, 3) := by decide +kernel
theorem dX6_turn_174 : decode cX6_turn 174 = .ok (.iload 7, 2) := by decide +kernel
theorem dX6_turn_176 : decode cX6_turn 176 = .ok (.goto 5, 3) := by decide +kernel
theorem dX6_turn_179 : decode cX6_turn 179 = .ok (.iload 6, 2) := by decide +kernel
theorem dX6_turn_181 : decode cX6_turn 181 = .ok (.iastore, 1) := by decide +kernel
theorem dX6_turn_182 : decode cX6_turn 182 = .ok (.aload_n 0, 1) := by decide +kernel
theorem dX6_turn_183 : decode cX6_turn 183 = .ok (.getfield 23, 3) := by decide +kernel
theorem dX6_turn_186 : decode cX6_turn 186 = .ok (.iload_n 1, 1) := by decide +kernel
theorem dX6_turn_187 : decode cX6_turn 187 = .ok (.iconst 1, 1) := by decide +kernel
theorem dX6_turn_188 : decode cX6_turn 188 = .ok (.bastore, 1) := by decide +kernel
theorem dX6_turn_189 : decode cX6_turn 189 = .ok (.iinc 1 1, 3) := by decide +kernel
theorem dX6_turn_192 : decode cX6_turn 192 = .ok (.iload_n 3, 1) := by decide +kernel
theorem dX6_turn_193 : decode cX6_turn 193 = .ok (.iconst 3, 1) := by decide +kernel
theorem dX6_turn_194 : decode cX6_turn 194 = .ok (.if_icmp .eq 25, 3) := by decide +kernel
theorem dX6_turn_197 : decode cX6_turn 197 = .ok (.iload_n 3, 1) := by decide +kernel
theorem dX6_turn_198 : decode cX6_turn 198 = .ok (.iconst 1, 1) := by decide +kernel
theorem dX6_turn_199 : decode cX6_turn 199 = .ok (.if_icmp .ne 13, 3) := by decide +kernel
theorem dX6_turn_202 : decode cX6_turn 202 = .ok (.iload 7, 2) := by decide +kernel
theorem dX6_turn_204 : decode cX6_turn 204 = .ok (.iload 6, 2) := by decide +kernel
theorem dX6_turn_206 : decode cX6_turn 206 = .ok (.if_icmp .le 31, 3) := by decide +kernel
theorem dX6_turn_209 : decode cX6_turn 209 = .ok (.goto 10, 3) := by decide +kernel
theorem dX6_turn_212 : decode cX6_turn 212 = .ok (.iload 6, 2) := by decide +kernel
theorem dX6_turn_214 : decode cX6_turn 214 = .ok (.iload 7, 2) := by decide +kernel
theorem dX6_turn_216 : decode cX6_turn 216 = .ok (.if_icmp .le 21, 3) := by decide +kernel
theorem dX6_turn_219 : decode cX6_turn 219 = .ok (.aload_n 0, 1) := by decide +kernel
theorem dX6_turn_220 : decode cX6_turn 220 = .ok (.getfield 67, 3) := by decide +kernel
theorem dX6_turn_223 : decode cX6_turn 223 = .ok (.iload 4, 2) := by decide +kernel
theorem dX6_turn_225 : decode cX6_turn 225 = .ok (.iload 7, 2) := by decide +kernel
theorem dX6_turn_227 : decode cX6_turn 227 = .ok (.iastore, 1) := by decide +kernel
theorem dX6_turn_228 : decode cX6_turn 228 = .ok (.aload_n 0, 1) := by decide +kernel
theorem dX6_turn_229 : decode cX6_turn 229 = .ok (.getfield 67, 3) := by decide +kernel
theorem dX6_turn_232 : decode cX6_turn 232 = .ok (.iload 5, 2) := by decide +kernel
theorem dX6_turn_234 : decode cX6_turn 234 = .ok (.iload 6, 2) := by decide +kernel
theorem dX6_turn_236 : decode cX6_turn 236 = .ok (.iastore, 1) := by decide +kernel
theorem dX6_turn_237 : decode cX6_turn 237 = .ok (.iinc 2 1, 3) := by decide +kernel
theorem dX6_turn_240 : decode cX6_turn 240 = .ok (.goto (-159), 3) := by decide +kernel
theorem dX6_turn_243 : decode cX6_turn 243 = .ok (.aload_n 0, 1) := by decide +kernel
theorem dX6_turn_244 : decode cX6_turn 244 = .ok (.iload_n 1, 1) := by decide +kernel
theorem dX6_turn_245 : decode cX6_turn 245 = .ok (.putfield 79, 3) := by decide +kernel
theorem dX6_turn_248 : decode cX6_turn 248 = .ok (.aload_n 0, 1) := by decide +kernel
theorem dX6_turn_249 : decode cX6_turn 249 = .ok (.getfield 79, 3) := by decide +kernel
theorem dX6_turn_252 : decode cX6_turn 252 = .ok (.ireturn, 1) := by decide +kernel
set_option maxRecDepth 20000 in
theorem ggX6_mirror_X6_begins : GoodIn wsX6_mirror wsX6_begins := goodIn_r _ [9, 10, 11, 12, 13, 14, 15, 16, 17, 18, 19, 8, 20, 3, 1, 21, 2, 4, 22, 23, 24, 25, 26, 27, 28, 29, 30, 31, 32, 33, 34, 35, 36, 37, 38, 39, 40, 41, 42, 43, 44, 45, 46, 47] (by decide +kernel) (by decide +kernel)
set_option maxRecDepth 20000 in
theorem gX6_mirror_X6_begins : GoodIn wsX6_mirror (wsV RX6 100 RX6 yX6_begins wsX6_begins) := goodIn_app (goodIn_of _ (by decide +kernel)) ggX6_mirror_X6_begins
theorem dX6_mirror_0 : decode cX6_mirror 0 = .ok (.aload_n 0, 1) := by decide +kernel
theorem dX6_mirror_1 : decode cX6_mirror 1 = .ok (.invokevirtual 100, 3) := by decide +kernel
theorem dX6_mirror_4 : decode cX6_mirror 4 = .ok (.iconst 0, 1) := by decide +kernel
theorem dX6_mirror_5 : decode cX6_mirror 5 = .ok (.istore_n 1, 1) := by decide +kernel
theorem dX6_mirror_6 : decode cX6_mirror 6 = .ok (.iload_n 1, 1) := by decide +kernel
theorem dX6_mirror_7 : decode cX6_mirror 7 = .ok (.aload_n 0, 1) := by decide +kernel
theorem dX6_mirror_8 : decode cX6_mirror 8 = .ok (.getfield 79, 3) := by decide +kernel
theorem dX6_mirror_11 : decode cX6_mirror 11 = .ok (.if_icmp .ge 49, 3) := by decide +kernel
theorem dX6_mirror_14 : decode cX6_mirror 14 = .ok (.aload_n 0, 1) := by decide +kernel
theorem dX6_mirror_15 : decode cX6_mirror 15 = .ok (.getfield 17, 3) := by decide +kernel
theorem dX6_mirror_18 : decode cX6_mirror 18 = .ok (.iload_n 1, 1) := by decide +kernel
theorem dX6_mirror_19 : decode cX6_mirror 19 = .ok (.iaload, 1) := by decide +kernel
theorem dX6_mirror_20 : decode cX6_mirror 20 = .ok (.istore_n 2, 1) := by decide +kernel
theorem dX6_mirror_21 : decode cX6_mirror 21 = .ok (.aload_n 0, 1) := by decide +kernel
theorem dX6_mirror_22 : decode cX6_mirror 22 = .ok (.getfield 17, 3) := by decide +kernel
theorem dX6_mirror_25 : decode cX6_mirror 25 = .ok (.iload_n 1, 1) := by decide +kernel
theorem dX6_mirror_26 : decode cX6_mirror 26 = .ok (.aload_n 0, 1) := by decide +kernel
theorem dX6_mirror_27 : decode cX6_mirror 27 = .ok (.getfield 7, 3) := by decide +kernel
theorem dX6_mirror_30 : decode cX6_mirror 30 = .ok (.iconst 1, 1) := by decide +kernel
theorem dX6_mirror_31 : decode cX6_mirror 31 = .ok (.isub, 1) := by decide +kernel
theorem dX6_mirror_32 : decode cX6_mirror 32 = .ok (.aload_n 0, 1) := by decide +kernel
theorem dX6_mirror_33 : decode cX6_mirror 33 = .ok (.getfield 20, 3) := by decide +kernel
theorem dX6_mirror_36 : decode cX6_mirror 36 = .ok (.iload_n 1, 1) := by decide +kernel
theorem dX6_mirror_37 : decode cX6_mirror 37 = .ok (.iaload, 1) := by decide +kernel
theorem dX6_mirror_38 : decode cX6_mirror 38 = .ok (.isub, 1) := by decide +kernel
theorem dX6_mirror_39 : decode cX6_mirror 39 = .ok (.iastore, 1) := by decide +kernel
theorem dX6_mirror_40 : decode cX6_mirror 40 = .ok (.aload_n 0, 1) := by decide +kernel
theorem dX6_mirror_41 : decode cX6_mirror 41 = .ok (.getfield 20, 3) := by decide +kernel
theorem dX6_mirror_44 : decode cX6_mirror 44 = .ok (.iload_n 1, 1) := by decide +kernel
theorem dX6_mirror_45 : decode cX6_mirror 45 = .ok (.aload_n 0, 1) := by decide +kernel
theorem dX6_mirror_46 : decode cX6_mirror 46 = .ok (.getfield 7, 3) := by decide +kernel
theorem dX6_mirror_49 : decode cX6_mirror 49 = .ok (.iconst 1, 1) := by decide +kernel
theorem dX6_mirror_50 : decode cX6_mirror 50 = .ok (.isub, 1) := by decide +kernel
theorem dX6_mirror_51 : decode cX6_mirror 51 = .ok (.iload_n 2, 1) := by decide +kernel
theorem dX6_mirror_52 : decode cX6_mirror 52 = .ok (.isub, 1) := by decide +kernel
theorem dX6_mirror_53 : decode cX6_mirror 53 = .ok (.iastore, 1) := by decide +kernel
theorem dX6_mirror_54 : decode cX6_mirror 54 = .ok (.iinc 1 1, 3) := by decide +kernel
theorem dX6_mirror_57 : decode cX6_mirror 57 = .ok (.goto (-51), 3) := by decide +kernel
theorem dX6_mirror_60 : decode cX6_mirror 60 = .ok (.aload_n 0, 1) := by decide +kernel
theorem dX6_mirror_61 : decode cX6_mirror 61 = .ok (.getfield 79, 3) := by decide +kernel
theorem dX6_mirror_64 : decode cX6_mirror 64 = .ok (.ireturn, 1) := by decide +kernel
theorem dX6_pair_0 : decode cX6_pair 0 = .ok (.iload_n 1, 1) := by decide +kernel
theorem dX6_pair_1 : decode cX6_pair 1 = .ok (.istore_n 2, 1) := by decide +kernel
theorem dX6_pair_2 : decode cX6_pair 2 = .ok (.iconst 0, 1) := by decide +kernel
theorem dX6_pair_3 : decode cX6_pair 3 = .ok (.istore_n 3, 1) := by decide +kernel
theorem dX6_pair_4 : decode cX6_pair 4 = .ok (.iload_n 3, 1) := by decide +kernel
theorem dX6_pair_5 : decode cX6_pair 5 = .ok (.aload_n 0, 1) := by decide +kernel
theorem dX6_pair_6 : decode cX6_pair 6 = .ok (.getfield 7, 3) := by decide +kernel
theorem dX6_pair_9 : decode cX6_pair 9 = .ok (.if_icmp .ge 44, 3) := by decide +kernel
theorem dX6_pair_12 : decode cX6_pair 12 = .ok (.iload_n 3, 1) := by decide +kernel
theorem dX6_pair_13 : decode cX6_pair 13 = .ok (.iconst 1, 1) := by decide +kernel
theorem dX6_pair_14 : decode cX6_pair 14 = .ok (.iadd, 1) := by decide +kernel
theorem dX6_pair_15 : decode cX6_pair 15 = .ok (.istore 4, 2) := by decide +kernel
theorem dX6_pair_17 : decode cX6_pair 17 = .ok (.iload 4, 2) := by decide +kernel
theorem dX6_pair_19 : decode cX6_pair 19 = .ok (.aload_n 0, 1) := by decide +kernel
theorem dX6_pair_20 : decode cX6_pair 20 = .ok (.getfield 7, 3) := by decide +kernel
theorem dX6_pair_23 : decode cX6_pair 23 = .ok (.if_icmp .ge 24, 3) := by decide +kernel
theorem dX6_pair_26 : decode cX6_pair 26 = .ok (.iload_n 2, 1) := by decide +kernel
theorem dX6_pair_27 : decode cX6_pair 27 = .ok (.ifCond .ne 11, 3) := by decide +kernel
theorem dX6_pair_30 : decode cX6_pair 30 = .ok (.bipush 10, 2) := by decide +kernel
theorem dX6_pair_32 : decode cX6_pair 32 = .ok (.iload_n 3, 1) := by decide +kernel
theorem dX6_pair_33 : decode cX6_pair 33 = .ok (.imul, 1) := by decide +kernel
theorem dX6_pair_34 : decode cX6_pair 34 = .ok (.iload 4, 2) := by decide +kernel
theorem dX6_pair_36 : decode cX6_pair 36 = .ok (.iadd, 1) := by decide +kernel
theorem dX6_pair_37 : decode cX6_pair 37 = .ok (.ireturn, 1) := by decide +kernel
theorem dX6_pair_38 : decode cX6_pair 38 = .ok (.iinc 2 (-1), 3) := by decide +kernel
theorem dX6_pair_41 : decode cX6_pair 41 = .ok (.iinc 4 1, 3) := by decide +kernel
theorem dX6_pair_44 : decode cX6_pair 44 = .ok (.goto (-27), 3) := by decide +kernel
theorem dX6_pair_47 : decode cX6_pair 47 = .ok (.iinc 3 1, 3) := by decide +kernel
theorem dX6_pair_50 : decode cX6_pair 50 = .ok (.goto (-46), 3) := by decide +kernel
theorem dX6_pair_53 : decode cX6_pair 53 = .ok (.iconst (-1), 1) := by decide +kernel
theorem dX6_pair_54 : decode cX6_pair 54 = .ok (.ireturn, 1) := by decide +kernel
set_option maxRecDepth 20000 in
theorem ggX6_does_X6_rows : GoodIn wsX6_does wsX6_rows := goodIn_r _ [7, 8, 32, 33, 34, 35, 36, 37, 38, 39, 40, 41, 42, 43, 44, 45, 46, 47, 48, 49, 50, 51, 52, 53, 54, 55, 56] (by decide +kernel) (by decide +kernel)
set_option maxRecDepth 20000 in
theorem gX6_does_X6_rows : GoodIn wsX6_does (wsV RX6 162 RX6 yX6_rows wsX6_rows) := goodIn_app (goodIn_of _ (by decide +kernel)) ggX6_does_X6_rows
set_option maxRecDepth 20000 in
theorem ggX6_does_X6_goes : GoodIn wsX6_does wsX6_goes := goodIn_r _ [12, 13, 14, 15, 16, 6, 17, 18, 19, 20, 21, 22, 23, 32, 33, 34, 35, 36, 37, 38, 39, 40, 41, 42, 43, 44, 45, 46, 47, 48, 49, 50, 51, 52, 53, 54, 55, 56] (by decide +kernel) (by decide +kernel)
set_option maxRecDepth 20000 in
theorem gX6_does_X6_goes : GoodIn wsX6_does (wsV RX6 166 RX6 yX6_goes wsX6_goes) := goodIn_app (goodIn_of _ (by decide +kernel)) ggX6_does_X6_goes
set_option maxRecDepth 20000 in
theorem ggX6_does_X6_pair : GoodIn wsX6_does wsX6_pair := goodIn_r _ [27, 8, 32, 33, 34, 35, 36, 37, 38, 39, 40, 41, 42, 43, 44, 45, 46, 47, 48, 49, 50, 51, 52, 53, 54, 55, 56] (by decide +kernel) (by decide +kernel)
set_option maxRecDepth 20000 in
theorem gX6_does_X6_pair : GoodIn wsX6_does (wsV RX6 178 RX6 yX6_pair wsX6_pair) := goodIn_app (goodIn_of _ (by decide +kernel)) ggX6_does_X6_pair
set_option maxRecDepth 20000 in
theorem ggX6_does_X6_at : GoodIn wsX6_does wsX6_at := goodIn_r _ [17] (by decide +kernel) (by decide +kernel)
set_option maxRecDepth 20000 in
theorem gX6_does_X6_at : GoodIn wsX6_does (va_wsS RX6 159 yX6_at wsX6_at) := goodIn_app (goodIn_of _ (by decide +kernel)) ggX6_does_X6_at
set_option maxRecDepth 20000 in
theorem ggX6_does_X6_isRising : GoodIn wsX6_does wsX6_isRising := goodIn_r _ [31, 8, 15, 16, 6, 17, 32, 33, 34, 35, 36, 37, 38, 39, 40, 41, 42, 43, 44, 45, 46, 47, 48, 49, 50, 51, 52, 53, 54, 55, 56] (by decide +kernel) (by decide +kernel)
set_option maxRecDepth 20000 in
theorem gX6_does_X6_isRising : GoodIn wsX6_does (wsV RX6 169 RX6 yX6_isRising wsX6_isRising) := goodIn_app (goodIn_of _ (by decide +kernel)) ggX6_does_X6_isRising
theorem dX6_does_0 : decode cX6_does 0 = .ok (.iconst 0, 1) := by decide +kernel
theorem dX6_does_1 : decode cX6_does 1 = .ok (.istore_n 2, 1) := by decide +kernel
theorem dX6_does_2 : decode cX6_does 2 = .ok (.iload_n 2, 1) := by decide +kernel
theorem dX6_does_3 : decode cX6_does 3 = .ok (.aload_n 0, 1) := by decide +kernel
theorem dX6_does_4 : decode cX6_does 4 = .ok (.invokevirtual 162, 3) := by decide +kernel
theorem dX6_does_7 : decode cX6_does 7 = .ok (.if_icmp .ge 97, 3) := by decide +kernel
theorem dX6_does_10 : decode cX6_does 10 = .ok (.aload_n 0, 1) := by decide +kernel
theorem dX6_does_11 : decode cX6_does 11 = .ok (.iload_n 2, 1) := by decide +kernel
theorem dX6_does_12 : decode cX6_does 12 = .ok (.aload_n 0, 1) := by decide +kernel
theorem dX6_does_13 : decode cX6_does 13 = .ok (.getfield 79, 3) := by decide +kernel
theorem dX6_does_16 : decode cX6_does 16 = .ok (.iconst (-1), 1) := by decide +kernel
theorem dX6_does_17 : decode cX6_does 17 = .ok (.invokevirtual 166, 3) := by decide +kernel
theorem dX6_does_20 : decode cX6_does 20 = .ok (.istore_n 3, 1) := by decide +kernel
theorem dX6_does_21 : decode cX6_does 21 = .ok (.iconst 0, 1) := by decide +kernel
theorem dX6_does_22 : decode cX6_does 22 = .ok (.istore 4, 2) := by decide +kernel
theorem dX6_does_24 : decode cX6_does 24 = .ok (.iload 4, 2) := by decide +kernel
theorem dX6_does_26 : decode cX6_does 26 = .ok (.iload_n 1, 1) := by decide +kernel
theorem dX6_does_27 : decode cX6_does 27 = .ok (.if_icmp .ge 61, 3) := by decide +kernel
theorem dX6_does_30 : decode cX6_does 30 = .ok (.aload_n 0, 1) := by decide +kernel
theorem dX6_does_31 : decode cX6_does 31 = .ok (.aload_n 0, 1) := by decide +kernel
theorem dX6_does_32 : decode cX6_does 32 = .ok (.getfield 70, 3) := by decide +kernel
theorem dX6_does_35 : decode cX6_does 35 = .ok (.iload 4, 2) := by decide +kernel
theorem dX6_does_37 : decode cX6_does 37 = .ok (.iaload, 1) := by decide +kernel
theorem dX6_does_38 : decode cX6_does 38 = .ok (.invokevirtual 178, 3) := by decide +kernel
theorem dX6_does_41 : decode cX6_does 41 = .ok (.istore 5, 2) := by decide +kernel
theorem dX6_does_43 : decode cX6_does 43 = .ok (.iload_n 3, 1) := by decide +kernel
theorem dX6_does_44 : decode cX6_does 44 = .ok (.iload 5, 2) := by decide +kernel
theorem dX6_does_46 : decode cX6_does 46 = .ok (.bipush 10, 2) := by decide +kernel
theorem dX6_does_48 : decode cX6_does 48 = .ok (.idiv, 1) := by decide +kernel
theorem dX6_does_49 : decode cX6_does 49 = .ok (.invokestatic 159, 3) := by decide +kernel
theorem dX6_does_52 : decode cX6_does 52 = .ok (.iload_n 3, 1) := by decide +kernel
theorem dX6_does_53 : decode cX6_does 53 = .ok (.iload 5, 2) := by decide +kernel
theorem dX6_does_55 : decode cX6_does 55 = .ok (.bipush 10, 2) := by decide +kernel
theorem dX6_does_57 : decode cX6_does 57 = .ok (.irem, 1) := by decide +kernel
theorem dX6_does_58 : decode cX6_does 58 = .ok (.invokestatic 159, 3) := by decide +kernel
theorem dX6_does_61 : decode cX6_does 61 = .ok (.if_icmp .le 21, 3) := by decide +kernel
theorem dX6_does_64 : decode cX6_does 64 = .ok (.iload_n 3, 1) := by decide +kernel
theorem dX6_does_65 : decode cX6_does 65 = .ok (.iconst 1, 1) := by decide +kernel
theorem dX6_does_66 : decode cX6_does 66 = .ok (.iload 5, 2) := by decide +kernel
theorem dX6_does_68 : decode cX6_does 68 = .ok (.bipush 10, 2) := by decide +kernel
theorem dX6_does_70 : decode cX6_does 70 = .ok (.idiv, 1) := by decide +kernel
theorem dX6_does_71 : decode cX6_does 71 = .ok (.ishl, 1) := by decide +kernel
theorem dX6_does_72 : decode cX6_does 72 = .ok (.ixor, 1) := by decide +kernel
theorem dX6_does_73 : decode cX6_does 73 = .ok (.iconst 1, 1) := by decide +kernel
theorem dX6_does_74 : decode cX6_does 74 = .ok (.iload 5, 2) := by decide +kernel
theorem dX6_does_76 : decode cX6_does 76 = .ok (.bipush 10, 2) := by decide +kernel
theorem dX6_does_78 : decode cX6_does 78 = .ok (.irem, 1) := by decide +kernel
theorem dX6_does_79 : decode cX6_does 79 = .ok (.ishl, 1) := by decide +kernel
theorem dX6_does_80 : decode cX6_does 80 = .ok (.ixor, 1) := by decide +kernel
theorem dX6_does_81 : decode cX6_does 81 = .ok (.istore_n 3, 1) := by decide +kernel
theorem dX6_does_82 : decode cX6_does 82 = .ok (.iinc 4 1, 3) := by decide +kernel
theorem dX6_does_85 : decode cX6_does 85 = .ok (.goto (-61), 3) := by decide +kernel
theorem dX6_does_88 : decode cX6_does 88 = .ok (.aload_n 0, 1) := by decide +kernel
theorem dX6_does_89 : decode cX6_does 89 = .ok (.iload_n 3, 1) := by decide +kernel
theorem dX6_does_90 : decode cX6_does 90 = .ok (.invokevirtual 169, 3) := by decide +kernel
theorem dX6_does_93 : decode cX6_does 93 = .ok (.ifCond .ne 5, 3) := by decide +kernel
theorem dX6_does_96 : decode cX6_does 96 = .ok (.iconst 0, 1) := by decide +kernel
theorem dX6_does_97 : decode cX6_does 97 = .ok (.ireturn, 1) := by decide +kernel
theorem dX6_does_98 : decode cX6_does 98 = .ok (.iinc 2 1, 3) := by decide +kernel
theorem dX6_does_101 : decode cX6_does 101 = .ok (.goto (-99), 3) := by decide +kernel
theorem dX6_does_104 : decode cX6_does 104 = .ok (.iconst 1, 1) := by decide +kernel
theorem dX6_does_105 : decode cX6_does 105 = .ok (.ireturn, 1) := by decide +kernel
set_option maxRecDepth 20000 in
theorem ggX6_shortest_X6_does : GoodIn wsX6_shortest wsX6_does := goodIn_r _ [7, 8, 2, 9, 10, 11, 6, 12, 1, 13, 14, 15, 16, 17, 18, 19, 20, 21, 22, 23, 24, 25, 26, 27, 28, 29, 30, 31, 32, 33, 34, 35, 36, 37, 38, 39, 40, 41, 42, 43, 44, 45, 46, 47, 48, 49, 50, 51, 52, 53, 54, 55, 56, 57, 58, 59, 60] (by decide +kernel) (by decide +kernel)
set_option maxRecDepth 20000 in
theorem gX6_shortest_X6_does : GoodIn wsX6_shortest (wsV RX6 181 RX6 yX6_does wsX6_does) := goodIn_app (goodIn_of _ (by decide +kernel)) ggX6_shortest_X6_does
theorem dX6_shortest_0 : decode cX6_shortest 0 = .ok (.aload_n 0, 1) := by decide +kernel
theorem dX6_shortest_1 : decode cX6_shortest 1 = .ok (.getfield 7, 3) := by decide +kernel
theorem dX6_shortest_4 : decode cX6_shortest 4 = .ok (.aload_n 0, 1) := by decide +kernel
theorem dX6_shortest_5 : decode cX6_shortest 5 = .ok (.getfield 7, 3) := by decide +kernel
theorem dX6_shortest_8 : decode cX6_shortest 8 = .ok (.iconst 1, 1) := by decide +kernel
theorem dX6_shortest_9 : decode cX6_shortest 9 = .ok (.isub, 1) := by decide +kernel
theorem dX6_shortest_10 : decode cX6_shortest 10 = .ok (.imul, 1) := by decide +kernel
theorem dX6_shortest_11 : decode cX6_shortest 11 = .ok (.iconst 2, 1) := by decide +kernel
theorem dX6_shortest_12 : decode cX6_shortest 12 = .ok (.idiv, 1) := by decide +kernel
theorem dX6_shortest_13 : decode cX6_shortest 13 = .ok (.istore_n 1, 1) := by decide +kernel
theorem dX6_shortest_14 : decode cX6_shortest 14 = .ok (.iconst 0, 1) := by decide +kernel
theorem dX6_shortest_15 : decode cX6_shortest 15 = .ok (.istore_n 2, 1) := by decide +kernel
theorem dX6_shortest_16 : decode cX6_shortest 16 = .ok (.iload_n 2, 1) := by decide +kernel
theorem dX6_shortest_17 : decode cX6_shortest 17 = .ok (.bipush 10, 2) := by decide +kernel
theorem dX6_shortest_19 : decode cX6_shortest 19 = .ok (.if_icmp .ge 111, 3) := by decide +kernel
theorem dX6_shortest_22 : decode cX6_shortest 22 = .ok (.iconst 0, 1) := by decide +kernel
theorem dX6_shortest_23 : decode cX6_shortest 23 = .ok (.istore_n 3, 1) := by decide +kernel
theorem dX6_shortest_24 : decode cX6_shortest 24 = .ok (.iload_n 3, 1) := by decide +kernel
theorem dX6_shortest_25 : decode cX6_shortest 25 = .ok (.iload_n 2, 1) := by decide +kernel
theorem dX6_shortest_26 : decode cX6_shortest 26 = .ok (.if_icmp .ge 16, 3) := by decide +kernel
theorem dX6_shortest_29 : decode cX6_shortest 29 = .ok (.aload_n 0, 1) := by decide +kernel
theorem dX6_shortest_30 : decode cX6_shortest 30 = .ok (.getfield 70, 3) := by decide +kernel
theorem dX6_shortest_33 : decode cX6_shortest 33 = .ok (.iload_n 3, 1) := by decide +kernel
theorem dX6_shortest_34 : decode cX6_shortest 34 = .ok (.iconst 0, 1) := by decide +kernel
theorem dX6_shortest_35 : decode cX6_shortest 35 = .ok (.iastore, 1) := by decide +kernel
theorem dX6_shortest_36 : decode cX6_shortest 36 = .ok (.iinc 3 1, 3) := by decide +kernel
theorem dX6_shortest_39 : decode cX6_shortest 39 = .ok (.goto (-15), 3) := by decide +kernel
theorem dX6_shortest_42 : decode cX6_shortest 42 = .ok (.iconst 1, 1) := by decide +kernel
theorem dX6_shortest_43 : decode cX6_shortest 43 = .ok (.istore_n 3, 1) := by decide +kernel
theorem dX6_shortest_44 : decode cX6_shortest 44 = .ok (.iload_n 3, 1) := by decide +kernel
theorem dX6_shortest_45 : decode cX6_shortest 45 = .ok (.ifCond .eq 79, 3) := by decide +kernel
theorem dX6_shortest_48 : decode cX6_shortest 48 = .ok (.aload_n 0, 1) := by decide +kernel
theorem dX6_shortest_49 : decode cX6_shortest 49 = .ok (.iload_n 2, 1) := by decide +kernel
theorem dX6_shortest_50 : decode cX6_shortest 50 = .ok (.invokevirtual 181, 3) := by decide +kernel
theorem dX6_shortest_53 : decode cX6_shortest 53 = .ok (.ifCond .eq 5, 3) := by decide +kernel
theorem dX6_shortest_56 : decode cX6_shortest 56 = .ok (.iload_n 2, 1) := by decide +kernel
theorem dX6_shortest_57 : decode cX6_shortest 57 = .ok (.ireturn, 1) := by decide +kernel
theorem dX6_shortest_58 : decode cX6_shortest 58 = .ok (.iload_n 2, 1) := by decide +kernel
theorem dX6_shortest_59 : decode cX6_shortest 59 = .ok (.iconst 1, 1) := by decide +kernel
theorem dX6_shortest_60 : decode cX6_shortest 60 = .ok (.isub, 1) := by decide +kernel
theorem dX6_shortest_61 : decode cX6_shortest 61 = .ok (.istore 4, 2) := by decide +kernel
theorem dX6_shortest_63 : decode cX6_shortest 63 = .ok (.iload 4, 2) := by decide +kernel
theorem dX6_shortest_65 : decode cX6_shortest 65 = .ok (.ifCond .lt 30, 3) := by decide +kernel
theorem dX6_shortest_68 : decode cX6_shortest 68 = .ok (.aload_n 0, 1) := by decide +kernel
theorem dX6_shortest_69 : decode cX6_shortest 69 = .ok (.getfield 70, 3) := by decide +kernel
theorem dX6_shortest_72 : decode cX6_shortest 72 = .ok (.iload 4, 2) := by decide +kernel
theorem dX6_shortest_74 : decode cX6_shortest 74 = .ok (.iaload, 1) := by decide +kernel
theorem dX6_shortest_75 : decode cX6_shortest 75 = .ok (.iload_n 1, 1) := by decide +kernel
theorem dX6_shortest_76 : decode cX6_shortest 76 = .ok (.iconst 1, 1) := by decide +kernel
theorem dX6_shortest_77 : decode cX6_shortest 77 = .ok (.isub, 1) := by decide +kernel
theorem dX6_shortest_78 : decode cX6_shortest 78 = .ok (.if_icmp .ne 17, 3) := by decide +kernel
theorem dX6_shortest_81 : decode cX6_shortest 81 = .ok (.aload_n 0, 1) := by decide +kernel
theorem dX6_shortest_82 : decode cX6_shortest 82 = .ok (.getfield 70, 3) := by decide +kernel
theorem dX6_shortest_85 : decode cX6_shortest 85 = .ok (.iload 4, 2) := by decide +kernel
theorem dX6_shortest_87 : decode cX6_shortest 87 = .ok (.iconst 0, 1) := by decide +kernel
theorem dX6_shortest_88 : decode cX6_shortest 88 = .ok (.iastore, 1) := by decide +kernel
theorem dX6_shortest_89 : decode cX6_shortest 89 = .ok (.iinc 4 (-1), 3) := by decide +kernel
theorem dX6_shortest_92 : decode cX6_shortest 92 = .ok (.goto (-29), 3) := by decide +kernel
theorem dX6_shortest_95 : decode cX6_shortest 95 = .ok (.iload 4, 2) := by decide +kernel
theorem dX6_shortest_97 : decode cX6_shortest 97 = .ok (.ifCond .lt 7, 3) := by decide +kernel
theorem dX6_shortest_100 : decode cX6_shortest 100 = .ok (.iconst 1, 1) := by decide +kernel
theorem dX6_shortest_101 : decode cX6_shortest 101 = .ok (.goto 4, 3) := by decide +kernel
theorem dX6_shortest_104 : decode cX6_shortest 104 = .ok (.iconst 0, 1) := by decide +kernel
theorem dX6_shortest_105 : decode cX6_shortest 105 = .ok (.istore_n 3, 1) := by decide +kernel
theorem dX6_shortest_106 : decode cX6_shortest 106 = .ok (.iload_n 3, 1) := by decide +kernel
theorem dX6_shortest_107 : decode cX6_shortest 107 = .ok (.ifCond .eq 14, 3) := by decide +kernel
theorem dX6_shortest_110 : decode cX6_shortest 110 = .ok (.aload_n 0, 1) := by decide +kernel
theorem dX6_shortest_111 : decode cX6_shortest 111 = .ok (.getfield 70, 3) := by decide +kernel
theorem dX6_shortest_114 : decode cX6_shortest 114 = .ok (.iload 4, 2) := by decide +kernel
theorem dX6_shortest_116 : decode cX6_shortest 116 = .ok (.dup2, 1) := by decide +kernel
theorem dX6_shortest_117 : decode cX6_shortest 117 = .ok (.iaload, 1) := by decide +kernel
theorem dX6_shortest_118 : decode cX6_shortest 118 = .ok (.iconst 1, 1) := by decide +kernel
theorem dX6_shortest_119 : decode cX6_shortest 119 = .ok (.iadd, 1) := by decide +kernel
theorem dX6_shortest_120 : decode cX6_shortest 120 = .ok (.iastore, 1) := by decide +kernel
theorem dX6_shortest_121 : decode cX6_shortest 121 = .ok (.goto (-77), 3) := by decide +kernel
theorem dX6_shortest_124 : decode cX6_shortest 124 = .ok (.iinc 2 1, 3) := by decide +kernel
theorem dX6_shortest_127 : decode cX6_shortest 127 = .ok (.goto (-111), 3) := by decide +kernel
theorem dX6_shortest_130 : decode cX6_shortest 130 = .ok (.iconst (-1), 1) := by decide +kernel
theorem dX6_shortest_131 : decode cX6_shortest 131 = .ok (.ireturn, 1) := by decide +kernel
set_option maxRecDepth 20000 in
theorem ggX6_missing_X6_found : GoodIn wsX6_missing wsX6_found := goodIn_r _ [6, 7, 45, 46, 47, 48, 49, 50, 51, 52, 53, 54, 55, 56, 57, 58, 59, 60, 61, 62, 63, 64, 65, 66, 67, 68, 69] (by decide +kernel) (by decide +kernel)
set_option maxRecDepth 20000 in
theorem gX6_missing_X6_found : GoodIn wsX6_missing (wsV RX6 93 RX6 yX6_found wsX6_found) := goodIn_app (goodIn_of _ (by decide +kernel)) ggX6_missing_X6_found
set_option maxRecDepth 20000 in
theorem ggX6_missing_X6_shortest : GoodIn wsX6_missing wsX6_shortest := goodIn_r _ [11, 1, 12, 13, 14, 15, 5, 16, 17, 18, 19, 20, 21, 22, 23, 24, 25, 26, 27, 28, 29, 30, 31, 32, 33, 34, 35, 36, 37, 38, 39, 40, 41, 42, 43, 44, 45, 46, 47, 48, 49, 50, 51, 52, 53, 54, 55, 56, 57, 58, 59, 60, 61, 62, 63, 64, 65, 66, 67, 68, 69] (by decide +kernel) (by decide +kernel)
set_option maxRecDepth 20000 in
theorem gX6_missing_X6_shortest : GoodIn wsX6_missing (wsV RX6 184 RX6 yX6_shortest wsX6_shortest) := goodIn_app (goodIn_of _ (by decide +kernel)) ggX6_missing_X6_shortest
theorem dX6_missing_0 : decode cX6_missing 0 = .ok (.aload_n 0, 1) := by decide +kernel
theorem dX6_missing_1 : decode cX6_missing 1 = .ok (.getfield 7, 3) := by decide +kernel
theorem dX6_missing_4 : decode cX6_missing 4 = .ok (.iconst 4, 1) := by decide +kernel
theorem dX6_missing_5 : decode cX6_missing 5 = .ok (.if_icmp .le 12, 3) := by decide +kernel
theorem dX6_missing_8 : decode cX6_missing 8 = .ok (.aload_n 0, 1) := by decide +kernel
theorem dX6_missing_9 : decode cX6_missing 9 = .ok (.bipush (-8), 2) := by decide +kernel
theorem dX6_missing_11 : decode cX6_missing 11 = .ok (.invokevirtual 93, 3) := by decide +kernel
theorem dX6_missing_14 : decode cX6_missing 14 = .ok (.goto 7, 3) := by decide +kernel
theorem dX6_missing_17 : decode cX6_missing 17 = .ok (.aload_n 0, 1) := by decide +kernel
theorem dX6_missing_18 : decode cX6_missing 18 = .ok (.invokevirtual 184, 3) := by decide +kernel
theorem dX6_missing_21 : decode cX6_missing 21 = .ok (.ireturn, 1) := by decide +kernel
set_option maxRecDepth 20000 in
theorem ggX6_next_X6_found : GoodIn wsX6_next wsX6_found := goodIn_r _ [7, 8, 48, 49, 50, 51, 52, 53, 54, 55, 56, 57, 58, 59, 60, 61, 62, 63, 64, 65, 66, 67, 68, 69, 70, 71, 72] (by decide +kernel) (by decide +kernel)
set_option maxRecDepth 20000 in
theorem gX6_next_X6_found : GoodIn wsX6_next (wsV RX6 93 RX6 yX6_found wsX6_found) := goodIn_app (goodIn_of _ (by decide +kernel)) ggX6_next_X6_found
set_option maxRecDepth 20000 in
theorem ggX6_next_X6_shortest : GoodIn wsX6_next wsX6_shortest := goodIn_r _ [12, 1, 2, 13, 14, 15, 6, 16, 17, 18, 19, 20, 21, 22, 23, 24, 25, 26, 27, 28, 29, 30, 31, 32, 33, 34, 35, 36, 37, 38, 39, 40, 41, 42, 43, 44, 48, 49, 50, 51, 52, 53, 54, 55, 56, 57, 58, 59, 60, 61, 62, 63, 64, 65, 66, 67, 68, 69, 70, 71, 72] (by decide +kernel) (by decide +kernel)
set_option maxRecDepth 20000 in
theorem gX6_next_X6_shortest : GoodIn wsX6_next (wsV RX6 184 RX6 yX6_shortest wsX6_shortest) := goodIn_app (goodIn_of _ (by decide +kernel)) ggX6_next_X6_shortest
set_option maxRecDepth 20000 in
theorem ggX6_next_X6_in : GoodIn wsX6_next wsX6_in := goodIn_r _ [47] (by decide +kernel) (by decide +kernel)
set_option maxRecDepth 20000 in
theorem gX6_next_X6_in : GoodIn wsX6_next (va_wsS RX6 82 yX6_in wsX6_in) := goodIn_app (goodIn_of _ (by decide +kernel)) ggX6_next_X6_in
set_option maxRecDepth 20000 in
theorem ggX6_next_X6_pair : GoodIn wsX6_next wsX6_pair := goodIn_r _ [40, 1, 48, 49, 50, 51, 52, 53, 54, 55, 56, 57, 58, 59, 60, 61, 62, 63, 64, 65, 66, 67, 68, 69, 70, 71, 72] (by decide +kernel) (by decide +kernel)
set_option maxRecDepth 20000 in
theorem gX6_next_X6_pair : GoodIn wsX6_next (wsV RX6 178 RX6 yX6_pair wsX6_pair) := goodIn_app (goodIn_of _ (by decide +kernel)) ggX6_next_X6_pair
theorem dX6_next_0 : decode cX6_next 0 = .ok (.aload_n 0, 1) := by decide +kernel
theorem dX6_next_1 : decode cX6_next 1 = .ok (.getfield 7, 3) := by decide +kernel
theorem dX6_next_4 : decode cX6_next 4 = .ok (.iconst 4, 1) := by decide +kernel
theorem dX6_next_5 : decode cX6_next 5 = .ok (.if_icmp .le 10, 3) := by decide +kernel
theorem dX6_next_8 : decode cX6_next 8 = .ok (.aload_n 0, 1) := by decide +kernel
theorem dX6_next_9 : decode cX6_next 9 = .ok (.bipush (-8), 2) := by decide +kernel
theorem dX6_next_11 : decode cX6_next 11 = .ok (.invokevirtual 93, 3) := by decide +kernel
theorem dX6_next_14 : decode cX6_next 14 = .ok (.ireturn, 1) := by decide +kernel
theorem dX6_next_15 : decode cX6_next 15 = .ok (.aload_n 0, 1) := by decide +kernel
theorem dX6_next_16 : decode cX6_next 16 = .ok (.invokevirtual 184, 3) := by decide +kernel
theorem dX6_next_19 : decode cX6_next 19 = .ok (.istore_n 2, 1) := by decide +kernel
theorem dX6_next_20 : decode cX6_next 20 = .ok (.iload_n 1, 1) := by decide +kernel
theorem dX6_next_21 : decode cX6_next 21 = .ok (.iconst 0, 1) := by decide +kernel
theorem dX6_next_22 : decode cX6_next 22 = .ok (.iload_n 2, 1) := by decide +kernel
theorem dX6_next_23 : decode cX6_next 23 = .ok (.iconst 1, 1) := by decide +kernel
theorem dX6_next_24 : decode cX6_next 24 = .ok (.isub, 1) := by decide +kernel
theorem dX6_next_25 : decode cX6_next 25 = .ok (.invokestatic 82, 3) := by decide +kernel
theorem dX6_next_28 : decode cX6_next 28 = .ok (.ifCond .eq 16, 3) := by decide +kernel
theorem dX6_next_31 : decode cX6_next 31 = .ok (.aload_n 0, 1) := by decide +kernel
theorem dX6_next_32 : decode cX6_next 32 = .ok (.aload_n 0, 1) := by decide +kernel
theorem dX6_next_33 : decode cX6_next 33 = .ok (.getfield 70, 3) := by decide +kernel
theorem dX6_next_36 : decode cX6_next 36 = .ok (.iload_n 1, 1) := by decide +kernel
theorem dX6_next_37 : decode cX6_next 37 = .ok (.iaload, 1) := by decide +kernel
theorem dX6_next_38 : decode cX6_next 38 = .ok (.invokevirtual 178, 3) := by decide +kernel
theorem dX6_next_41 : decode cX6_next 41 = .ok (.goto 9, 3) := by decide +kernel
theorem dX6_next_44 : decode cX6_next 44 = .ok (.aload_n 0, 1) := by decide +kernel
theorem dX6_next_45 : decode cX6_next 45 = .ok (.bipush (-6), 2) := by decide +kernel
theorem dX6_next_47 : decode cX6_next 47 = .ok (.invokevirtual 93, 3) := by decide +kernel
theorem dX6_next_50 : decode cX6_next 50 = .ok (.ireturn, 1) := by decide +kernel
set_option maxRecDepth 20000 in
theorem ggX6_bears_X6_sorts : GoodIn wsX6_bears wsX6_sorts := goodIn_r _ [6, 7, 8, 9, 5, 10, 1, 11, 12, 13, 14, 15, 16, 17, 18, 19, 20, 21, 22, 23, 24, 25, 26, 27, 28, 29, 30, 31, 32, 33, 34, 35, 36, 37, 38, 39, 40, 41, 42, 43, 44, 45, 46, 47, 48, 49, 50, 51, 52, 53, 54, 55, 56, 57, 58, 59] (by decide +kernel) (by decide +kernel)
set_option maxRecDepth 20000 in
theorem gX6_bears_X6_sorts : GoodIn wsX6_bears (wsV RX6 187 RX6 yX6_sorts wsX6_sorts) := goodIn_app (goodIn_of _ (by decide +kernel)) ggX6_bears_X6_sorts
set_option maxRecDepth 20000 in
theorem ggX6_bears_X6_failing : GoodIn wsX6_bears wsX6_failing := goodIn_r _ [10, 1, 11, 12, 13, 5, 14, 15, 16, 17, 18, 19, 20, 21, 22, 23, 24, 25, 26, 27, 28, 29, 30, 31, 32, 33, 34, 35, 36, 37, 38, 39, 40, 41, 42, 43, 44, 45, 46, 47, 48, 49, 50, 51, 52, 53, 54, 55, 56, 57, 58, 59] (by decide +kernel) (by decide +kernel)
set_option maxRecDepth 20000 in
theorem gX6_bears_X6_failing : GoodIn wsX6_bears (wsV RX6 172 RX6 yX6_failing wsX6_failing) := goodIn_app (goodIn_of _ (by decide +kernel)) ggX6_bears_X6_failing
theorem dX6_bears_0 : decode cX6_bears 0 = .ok (.aload_n 0, 1) := by decide +kernel
theorem dX6_bears_1 : decode cX6_bears 1 = .ok (.getfield 79, 3) := by decide +kernel
theorem dX6_bears_4 : decode cX6_bears 4 = .ok (.ifCond .ne 8, 3) := by decide +kernel
theorem dX6_bears_7 : decode cX6_bears 7 = .ok (.aload_n 0, 1) := by decide +kernel
theorem dX6_bears_8 : decode cX6_bears 8 = .ok (.invokevirtual 187, 3) := by decide +kernel
theorem dX6_bears_11 : decode cX6_bears 11 = .ok (.ireturn, 1) := by decide +kernel
theorem dX6_bears_12 : decode cX6_bears 12 = .ok (.iconst 0, 1) := by decide +kernel
theorem dX6_bears_13 : decode cX6_bears 13 = .ok (.istore_n 1, 1) := by decide +kernel
theorem dX6_bears_14 : decode cX6_bears 14 = .ok (.iload_n 1, 1) := by decide +kernel
theorem dX6_bears_15 : decode cX6_bears 15 = .ok (.aload_n 0, 1) := by decide +kernel
theorem dX6_bears_16 : decode cX6_bears 16 = .ok (.getfield 79, 3) := by decide +kernel
theorem dX6_bears_19 : decode cX6_bears 19 = .ok (.if_icmp .ge 19, 3) := by decide +kernel
theorem dX6_bears_22 : decode cX6_bears 22 = .ok (.aload_n 0, 1) := by decide +kernel
theorem dX6_bears_23 : decode cX6_bears 23 = .ok (.iload_n 1, 1) := by decide +kernel
theorem dX6_bears_24 : decode cX6_bears 24 = .ok (.invokevirtual 172, 3) := by decide +kernel
theorem dX6_bears_27 : decode cX6_bears 27 = .ok (.ifCond .lt 5, 3) := by decide +kernel
theorem dX6_bears_30 : decode cX6_bears 30 = .ok (.iconst 0, 1) := by decide +kernel
theorem dX6_bears_31 : decode cX6_bears 31 = .ok (.ireturn, 1) := by decide +kernel
theorem dX6_bears_32 : decode cX6_bears 32 = .ok (.iinc 1 1, 3) := by decide +kernel
theorem dX6_bears_35 : decode cX6_bears 35 = .ok (.goto (-21), 3) := by decide +kernel
theorem dX6_bears_38 : decode cX6_bears 38 = .ok (.iconst 1, 1) := by decide +kernel
theorem dX6_bears_39 : decode cX6_bears 39 = .ok (.ireturn, 1) := by decide +kernel
set_option maxRecDepth 20000 in
theorem ggX6_weak_X6_isComparer : GoodIn wsX6_weak wsX6_isComparer := goodIn_r _ [5, 6, 7, 8, 4, 9, 43, 44, 45, 46, 47, 48, 49, 50, 51, 52, 53, 54, 55, 56, 57, 58, 59, 60, 61, 62, 63, 64, 65, 66, 67] (by decide +kernel) (by decide +kernel)
set_option maxRecDepth 20000 in
theorem gX6_weak_X6_isComparer : GoodIn wsX6_weak (wsV RX6 111 RX6 yX6_isComparer wsX6_isComparer) := goodIn_app (goodIn_of _ (by decide +kernel)) ggX6_weak_X6_isComparer
set_option maxRecDepth 20000 in
theorem ggX6_weak_X6_found : GoodIn wsX6_weak wsX6_found := goodIn_r _ [13, 14, 43, 44, 45, 46, 47, 48, 49, 50, 51, 52, 53, 54, 55, 56, 57, 58, 59, 60, 61, 62, 63, 64, 65, 66, 67] (by decide +kernel) (by decide +kernel)
set_option maxRecDepth 20000 in
theorem gX6_weak_X6_found : GoodIn wsX6_weak (wsV RX6 93 RX6 yX6_found wsX6_found) := goodIn_app (goodIn_of _ (by decide +kernel)) ggX6_weak_X6_found
set_option maxRecDepth 20000 in
theorem ggX6_weak_X6_failing : GoodIn wsX6_weak wsX6_failing := goodIn_r _ [18, 6, 19, 20, 21, 4, 22, 23, 24, 25, 26, 27, 28, 29, 30, 31, 32, 33, 34, 35, 36, 37, 38, 39, 40, 41, 42, 43, 44, 45, 46, 47, 48, 49, 50, 51, 52, 53, 54, 55, 56, 57, 58, 59, 60, 61, 62, 63, 64, 65, 66, 67] (by decide +kernel) (by decide +kernel)
set_option maxRecDepth 20000 in
theorem gX6_weak_X6_failing : GoodIn wsX6_weak (wsV RX6 172 RX6 yX6_failing wsX6_failing) := goodIn_app (goodIn_of _ (by decide +kernel)) ggX6_weak_X6_failing
theorem dX6_weak_0 : decode cX6_weak 0 = .ok (.aload_n 0, 1) := by decide +kernel
theorem dX6_weak_1 : decode cX6_weak 1 = .ok (.iload_n 1, 1) := by decide +kernel
theorem dX6_weak_2 : decode cX6_weak 2 = .ok (.invokevirtual 111, 3) := by decide +kernel
theorem dX6_weak_5 : decode cX6_weak 5 = .ok (.ifCond .ne 9, 3) := by decide +kernel
theorem dX6_weak_8 : decode cX6_weak 8 = .ok (.aload_n 0, 1) := by decide +kernel
theorem dX6_weak_9 : decode cX6_weak 9 = .ok (.iconst (-1), 1) := by decide +kernel
theorem dX6_weak_10 : decode cX6_weak 10 = .ok (.invokevirtual 93, 3) := by decide +kernel
end
section
theorem dX6_weak_13 : decode cX6_weak 13 = .ok (.ireturn, 1) := by decide +kernel
theorem dX6_weak_14 : decode cX6_weak 14 = .ok (.aload_n 0, 1) := by decide +kernel
theorem dX6_weak_15 : decode cX6_weak 15 = .ok (.iload_n 1, 1) := by decide +kernel
theorem dX6_weak_16 : decode cX6_weak 16 = .ok (.invokevirtual 172, 3) := by decide +kernel
theorem dX6_weak_19 : decode cX6_weak 19 = .ok (.istore_n 2, 1) := by decide +kernel
theorem dX6_weak_20 : decode cX6_weak 20 = .ok (.iload_n 2, 1) := by decide +kernel
theorem dX6_weak_21 : decode cX6_weak 21 = .ok (.ifCond .ge 12, 3) := by decide +kernel
theorem dX6_weak_24 : decode cX6_weak 24 = .ok (.aload_n 0, 1) := by decide +kernel
theorem dX6_weak_25 : decode cX6_weak 25 = .ok (.bipush (-6), 2) := by decide +kernel
theorem dX6_weak_27 : decode cX6_weak 27 = .ok (.invokevirtual 93, 3) := by decide +kernel
theorem dX6_weak_30 : decode cX6_weak 30 = .ok (.goto 4, 3) := by decide +kernel
theorem dX6_weak_33 : decode cX6_weak 33 = .ok (.iload_n 2, 1) := by decide +kernel
theorem dX6_weak_34 : decode cX6_weak 34 = .ok (.ireturn, 1) := by decide +kernel
set_option maxRecDepth 20000 in
theorem ggX6_isSlot_X6_in : GoodIn wsX6_isSlot wsX6_in := goodIn_r _ [4] (by decide +kernel) (by decide +kernel)
set_option maxRecDepth 20000 in
theorem gX6_isSlot_X6_in : GoodIn wsX6_isSlot (va_wsS RX6 82 yX6_in wsX6_in) := goodIn_app (goodIn_of _ (by decide +kernel)) ggX6_isSlot_X6_in
theorem dX6_isSlot_0 : decode cX6_isSlot 0 = .ok (.iload_n 0, 1) := by decide +kernel
theorem dX6_isSlot_1 : decode cX6_isSlot 1 = .ok (.iconst 0, 1) := by decide +kernel
theorem dX6_isSlot_2 : decode cX6_isSlot 2 = .ok (.iconst 3, 1) := by decide +kernel
theorem dX6_isSlot_3 : decode cX6_isSlot 3 = .ok (.invokestatic 82, 3) := by decide +kernel
theorem dX6_isSlot_6 : decode cX6_isSlot 6 = .ok (.ireturn, 1) := by decide +kernel
set_option maxRecDepth 20000 in
theorem ggX6_keep_X6_isSlot : GoodIn wsX6_keep wsX6_isSlot := goodIn_r _ [5, 6, 7, 4, 8] (by decide +kernel) (by decide +kernel)
set_option maxRecDepth 20000 in
theorem gX6_keep_X6_isSlot : GoodIn wsX6_keep (va_wsS RX6 190 yX6_isSlot wsX6_isSlot) := goodIn_app (goodIn_of _ (by decide +kernel)) ggX6_keep_X6_isSlot
set_option maxRecDepth 20000 in
theorem ggX6_keep_X6_found : GoodIn wsX6_keep wsX6_found := goodIn_r _ [12, 13, 29, 30, 31, 32, 33, 34, 35, 36, 37, 38, 39, 40, 41, 42, 43, 44, 45, 46, 47, 48, 49, 50, 51, 52, 53] (by decide +kernel) (by decide +kernel)
set_option maxRecDepth 20000 in
theorem gX6_keep_X6_found : GoodIn wsX6_keep (wsV RX6 93 RX6 yX6_found wsX6_found) := goodIn_app (goodIn_of _ (by decide +kernel)) ggX6_keep_X6_found
set_option maxRecDepth 20000 in
theorem ggX6_keep_X6_store : GoodIn wsX6_keep wsX6_store := goodIn_r _ [17, 18, 19, 20, 1, 21, 22, 23, 24, 25, 26, 27, 28, 29, 30, 31, 32, 33, 34, 35, 36, 37, 38, 39, 40, 41, 42, 43, 44, 45, 46, 47, 48, 49, 50, 51, 52, 53] (by decide +kernel) (by decide +kernel)
set_option maxRecDepth 20000 in
theorem gX6_keep_X6_store : GoodIn wsX6_keep (wsV RX6 89 RX6 yX6_store wsX6_store) := goodIn_app (goodIn_of _ (by decide +kernel)) ggX6_keep_X6_store
theorem dX6_keep_0 : decode cX6_keep 0 = .ok (.iload_n 1, 1) := by decide +kernel
theorem dX6_keep_1 : decode cX6_keep 1 = .ok (.invokestatic 190, 3) := by decide +kernel
theorem dX6_keep_4 : decode cX6_keep 4 = .ok (.ifCond .ne 9, 3) := by decide +kernel
theorem dX6_keep_7 : decode cX6_keep 7 = .ok (.aload_n 0, 1) := by decide +kernel
theorem dX6_keep_8 : decode cX6_keep 8 = .ok (.iconst (-1), 1) := by decide +kernel
theorem dX6_keep_9 : decode cX6_keep 9 = .ok (.invokevirtual 93, 3) := by decide +kernel
theorem dX6_keep_12 : decode cX6_keep 12 = .ok (.ireturn, 1) := by decide +kernel
theorem dX6_keep_13 : decode cX6_keep 13 = .ok (.aload_n 0, 1) := by decide +kernel
theorem dX6_keep_14 : decode cX6_keep 14 = .ok (.bipush 25, 2) := by decide +kernel
theorem dX6_keep_16 : decode cX6_keep 16 = .ok (.iload_n 1, 1) := by decide +kernel
theorem dX6_keep_17 : decode cX6_keep 17 = .ok (.iadd, 1) := by decide +kernel
theorem dX6_keep_18 : decode cX6_keep 18 = .ok (.invokevirtual 89, 3) := by decide +kernel
theorem dX6_keep_21 : decode cX6_keep 21 = .ok (.aload_n 0, 1) := by decide +kernel
theorem dX6_keep_22 : decode cX6_keep 22 = .ok (.getfield 79, 3) := by decide +kernel
theorem dX6_keep_25 : decode cX6_keep 25 = .ok (.ireturn, 1) := by decide +kernel
set_option maxRecDepth 20000 in
theorem ggX6_bring_X6_isSlot : GoodIn wsX6_bring wsX6_isSlot := goodIn_r _ [6, 7, 8, 5, 9] (by decide +kernel) (by decide +kernel)
set_option maxRecDepth 20000 in
theorem gX6_bring_X6_isSlot : GoodIn wsX6_bring (va_wsS RX6 190 yX6_isSlot wsX6_isSlot) := goodIn_app (goodIn_of _ (by decide +kernel)) ggX6_bring_X6_isSlot
set_option maxRecDepth 20000 in
theorem ggX6_bring_X6_found : GoodIn wsX6_bring wsX6_found := goodIn_r _ [13, 14, 38, 39, 40, 41, 42, 43, 44, 45, 46, 47, 48, 49, 50, 51, 52, 53, 54, 55, 56, 57, 58, 59, 60, 61, 62] (by decide +kernel) (by decide +kernel)
set_option maxRecDepth 20000 in
theorem gX6_bring_X6_found : GoodIn wsX6_bring (wsV RX6 93 RX6 yX6_found wsX6_found) := goodIn_app (goodIn_of _ (by decide +kernel)) ggX6_bring_X6_found
set_option maxRecDepth 20000 in
theorem ggX6_bring_X6_begins : GoodIn wsX6_bring wsX6_begins := goodIn_r _ [18, 19, 1, 20, 21, 22, 23, 24, 25, 26, 27, 5, 28, 29, 2, 30, 31, 32, 33, 38, 39, 40, 41, 42, 43, 44, 45, 46, 47, 48, 49, 50, 51, 52, 53, 54, 55, 56, 57, 58, 59, 60, 61, 62] (by decide +kernel) (by decide +kernel)
set_option maxRecDepth 20000 in
theorem gX6_bring_X6_begins : GoodIn wsX6_bring (wsV RX6 100 RX6 yX6_begins wsX6_begins) := goodIn_app (goodIn_of _ (by decide +kernel)) ggX6_bring_X6_begins
set_option maxRecDepth 20000 in
theorem ggX6_bring_X6_restore : GoodIn wsX6_bring wsX6_restore := goodIn_r _ [37, 1, 29, 20, 2, 30, 21, 31, 22, 32, 23, 33, 24, 38, 39, 40, 41, 42, 43, 44, 45, 46, 47, 48, 49, 50, 51, 52, 53, 54, 55, 56, 57, 58, 59, 60, 61, 62] (by decide +kernel) (by decide +kernel)
set_option maxRecDepth 20000 in
theorem gX6_bring_X6_restore : GoodIn wsX6_bring (wsV RX6 97 RX6 yX6_restore wsX6_restore) := goodIn_app (goodIn_of _ (by decide +kernel)) ggX6_bring_X6_restore
theorem dX6_bring_0 : decode cX6_bring 0 = .ok (.iload_n 1, 1) := by decide +kernel
theorem dX6_bring_1 : decode cX6_bring 1 = .ok (.invokestatic 190, 3) := by decide +kernel
theorem dX6_bring_4 : decode cX6_bring 4 = .ok (.ifCond .ne 9, 3) := by decide +kernel
theorem dX6_bring_7 : decode cX6_bring 7 = .ok (.aload_n 0, 1) := by decide +kernel
theorem dX6_bring_8 : decode cX6_bring 8 = .ok (.iconst (-1), 1) := by decide +kernel
theorem dX6_bring_9 : decode cX6_bring 9 = .ok (.invokevirtual 93, 3) := by decide +kernel
theorem dX6_bring_12 : decode cX6_bring 12 = .ok (.ireturn, 1) := by decide +kernel
theorem dX6_bring_13 : decode cX6_bring 13 = .ok (.aload_n 0, 1) := by decide +kernel
theorem dX6_bring_14 : decode cX6_bring 14 = .ok (.getfield 27, 3) := by decide +kernel
theorem dX6_bring_17 : decode cX6_bring 17 = .ok (.bipush 25, 2) := by decide +kernel
theorem dX6_bring_19 : decode cX6_bring 19 = .ok (.iload_n 1, 1) := by decide +kernel
theorem dX6_bring_20 : decode cX6_bring 20 = .ok (.iadd, 1) := by decide +kernel
theorem dX6_bring_21 : decode cX6_bring 21 = .ok (.iaload, 1) := by decide +kernel
theorem dX6_bring_22 : decode cX6_bring 22 = .ok (.ifCond .ne 10, 3) := by decide +kernel
theorem dX6_bring_25 : decode cX6_bring 25 = .ok (.aload_n 0, 1) := by decide +kernel
theorem dX6_bring_26 : decode cX6_bring 26 = .ok (.bipush (-6), 2) := by decide +kernel
theorem dX6_bring_28 : decode cX6_bring 28 = .ok (.invokevirtual 93, 3) := by decide +kernel
theorem dX6_bring_31 : decode cX6_bring 31 = .ok (.ireturn, 1) := by decide +kernel
theorem dX6_bring_32 : decode cX6_bring 32 = .ok (.aload_n 0, 1) := by decide +kernel
theorem dX6_bring_33 : decode cX6_bring 33 = .ok (.invokevirtual 100, 3) := by decide +kernel
theorem dX6_bring_36 : decode cX6_bring 36 = .ok (.aload_n 0, 1) := by decide +kernel
theorem dX6_bring_37 : decode cX6_bring 37 = .ok (.bipush 25, 2) := by decide +kernel
theorem dX6_bring_39 : decode cX6_bring 39 = .ok (.iload_n 1, 1) := by decide +kernel
theorem dX6_bring_40 : decode cX6_bring 40 = .ok (.iadd, 1) := by decide +kernel
theorem dX6_bring_41 : decode cX6_bring 41 = .ok (.invokevirtual 97, 3) := by decide +kernel
theorem dX6_bring_44 : decode cX6_bring 44 = .ok (.aload_n 0, 1) := by decide +kernel
theorem dX6_bring_45 : decode cX6_bring 45 = .ok (.getfield 79, 3) := by decide +kernel
theorem dX6_bring_48 : decode cX6_bring 48 = .ok (.ireturn, 1) := by decide +kernel
set_option maxRecDepth 20000 in
theorem ggX6_follow_X6_isSlot : GoodIn wsX6_follow wsX6_isSlot := goodIn_r _ [16, 17, 18, 15, 19] (by decide +kernel) (by decide +kernel)
set_option maxRecDepth 20000 in
theorem gX6_follow_X6_isSlot : GoodIn wsX6_follow (va_wsS RX6 190 yX6_isSlot wsX6_isSlot) := goodIn_app (goodIn_of _ (by decide +kernel)) ggX6_follow_X6_isSlot
set_option maxRecDepth 20000 in
theorem ggX6_follow_X6_found : GoodIn wsX6_follow wsX6_found := goodIn_r _ [23, 24, 34, 35, 36, 37, 38, 39, 40, 41, 42, 43, 44, 45, 46, 47, 48, 49, 50, 51, 52, 53, 54, 55, 56, 57, 58] (by decide +kernel) (by decide +kernel)
set_option maxRecDepth 20000 in
theorem gX6_follow_X6_found : GoodIn wsX6_follow (wsV RX6 93 RX6 yX6_found wsX6_found) := goodIn_app (goodIn_of _ (by decide +kernel)) ggX6_follow_X6_found
set_option maxRecDepth 20000 in
theorem ggX6_follow_X6_begins : GoodIn wsX6_follow wsX6_begins := goodIn_r _ [28, 29, 1, 4, 6, 8, 10, 12, 30, 31, 32, 15, 33, 2, 3, 5, 7, 9, 11, 34, 35, 36, 37, 38, 39, 40, 41, 42, 43, 44, 45, 46, 47, 48, 49, 50, 51, 52, 53, 54, 55, 56, 57, 58] (by decide +kernel) (by decide +kernel)
set_option maxRecDepth 20000 in
theorem gX6_follow_X6_begins : GoodIn wsX6_follow (wsV RX6 100 RX6 yX6_begins wsX6_begins) := goodIn_app (goodIn_of _ (by decide +kernel)) ggX6_follow_X6_begins
theorem dX6_follow_0 : decode cX6_follow 0 = .ok (.iload_n 1, 1) := by decide +kernel
theorem dX6_follow_1 : decode cX6_follow 1 = .ok (.invokestatic 190, 3) := by decide +kernel
theorem dX6_follow_4 : decode cX6_follow 4 = .ok (.ifCond .ne 9, 3) := by decide +kernel
theorem dX6_follow_7 : decode cX6_follow 7 = .ok (.aload_n 0, 1) := by decide +kernel
theorem dX6_follow_8 : decode cX6_follow 8 = .ok (.iconst (-1), 1) := by decide +kernel
theorem dX6_follow_9 : decode cX6_follow 9 = .ok (.invokevirtual 93, 3) := by decide +kernel
theorem dX6_follow_12 : decode cX6_follow 12 = .ok (.ireturn, 1) := by decide +kernel
theorem dX6_follow_13 : decode cX6_follow 13 = .ok (.bipush 25, 2) := by decide +kernel
theorem dX6_follow_15 : decode cX6_follow 15 = .ok (.iload_n 1, 1) := by decide +kernel
theorem dX6_follow_16 : decode cX6_follow 16 = .ok (.iadd, 1) := by decide +kernel
theorem dX6_follow_17 : decode cX6_follow 17 = .ok (.istore_n 2, 1) := by decide +kernel
theorem dX6_follow_18 : decode cX6_follow 18 = .ok (.aload_n 0, 1) := by decide +kernel
theorem dX6_follow_19 : decode cX6_follow 19 = .ok (.getfield 27, 3) := by decide +kernel
theorem dX6_follow_22 : decode cX6_follow 22 = .ok (.iload_n 2, 1) := by decide +kernel
theorem dX6_follow_23 : decode cX6_follow 23 = .ok (.iaload, 1) := by decide +kernel
theorem dX6_follow_24 : decode cX6_follow 24 = .ok (.ifCond .ne 10, 3) := by decide +kernel
theorem dX6_follow_27 : decode cX6_follow 27 = .ok (.aload_n 0, 1) := by decide +kernel
theorem dX6_follow_28 : decode cX6_follow 28 = .ok (.bipush (-6), 2) := by decide +kernel
theorem dX6_follow_30 : decode cX6_follow 30 = .ok (.invokevirtual 93, 3) := by decide +kernel
theorem dX6_follow_33 : decode cX6_follow 33 = .ok (.ireturn, 1) := by decide +kernel
theorem dX6_follow_34 : decode cX6_follow 34 = .ok (.aload_n 0, 1) := by decide +kernel
theorem dX6_follow_35 : decode cX6_follow 35 = .ok (.getfield 27, 3) := by decide +kernel
theorem dX6_follow_38 : decode cX6_follow 38 = .ok (.iload_n 2, 1) := by decide +kernel
theorem dX6_follow_39 : decode cX6_follow 39 = .ok (.iaload, 1) := by decide +kernel
theorem dX6_follow_40 : decode cX6_follow 40 = .ok (.aload_n 0, 1) := by decide +kernel
theorem dX6_follow_41 : decode cX6_follow 41 = .ok (.getfield 7, 3) := by decide +kernel
theorem dX6_follow_44 : decode cX6_follow 44 = .ok (.if_icmp .eq 10, 3) := by decide +kernel
theorem dX6_follow_47 : decode cX6_follow 47 = .ok (.aload_n 0, 1) := by decide +kernel
theorem dX6_follow_48 : decode cX6_follow 48 = .ok (.bipush (-3), 2) := by decide +kernel
theorem dX6_follow_50 : decode cX6_follow 50 = .ok (.invokevirtual 93, 3) := by decide +kernel
theorem dX6_follow_53 : decode cX6_follow 53 = .ok (.ireturn, 1) := by decide +kernel
theorem dX6_follow_54 : decode cX6_follow 54 = .ok (.aload_n 0, 1) := by decide +kernel
theorem dX6_follow_55 : decode cX6_follow 55 = .ok (.getfield 79, 3) := by decide +kernel
theorem dX6_follow_58 : decode cX6_follow 58 = .ok (.aload_n 0, 1) := by decide +kernel
theorem dX6_follow_59 : decode cX6_follow 59 = .ok (.getfield 30, 3) := by decide +kernel
theorem dX6_follow_62 : decode cX6_follow 62 = .ok (.iload_n 2, 1) := by decide +kernel
theorem dX6_follow_63 : decode cX6_follow 63 = .ok (.iaload, 1) := by decide +kernel
theorem dX6_follow_64 : decode cX6_follow 64 = .ok (.iadd, 1) := by decide +kernel
theorem dX6_follow_65 : decode cX6_follow 65 = .ok (.bipush 40, 2) := by decide +kernel
theorem dX6_follow_67 : decode cX6_follow 67 = .ok (.if_icmp .le 10, 3) := by decide +kernel
theorem dX6_follow_70 : decode cX6_follow 70 = .ok (.aload_n 0, 1) := by decide +kernel
theorem dX6_follow_71 : decode cX6_follow 71 = .ok (.bipush (-5), 2) := by decide +kernel
theorem dX6_follow_73 : decode cX6_follow 73 = .ok (.invokevirtual 93, 3) := by decide +kernel
theorem dX6_follow_76 : decode cX6_follow 76 = .ok (.ireturn, 1) := by decide +kernel
theorem dX6_follow_77 : decode cX6_follow 77 = .ok (.aload_n 0, 1) := by decide +kernel
theorem dX6_follow_78 : decode cX6_follow 78 = .ok (.invokevirtual 100, 3) := by decide +kernel
theorem dX6_follow_81 : decode cX6_follow 81 = .ok (.iconst 0, 1) := by decide +kernel
theorem dX6_follow_82 : decode cX6_follow 82 = .ok (.istore_n 3, 1) := by decide +kernel
theorem dX6_follow_83 : decode cX6_follow 83 = .ok (.iload_n 3, 1) := by decide +kernel
theorem dX6_follow_84 : decode cX6_follow 84 = .ok (.aload_n 0, 1) := by decide +kernel
theorem dX6_follow_85 : decode cX6_follow 85 = .ok (.getfield 30, 3) := by decide +kernel
theorem dX6_follow_88 : decode cX6_follow 88 = .ok (.iload_n 2, 1) := by decide +kernel
theorem dX6_follow_89 : decode cX6_follow 89 = .ok (.iaload, 1) := by decide +kernel
theorem dX6_follow_90 : decode cX6_follow 90 = .ok (.if_icmp .ge 99, 3) := by decide +kernel
theorem dX6_follow_93 : decode cX6_follow 93 = .ok (.aload_n 0, 1) := by decide +kernel
theorem dX6_follow_94 : decode cX6_follow 94 = .ok (.getfield 13, 3) := by decide +kernel
theorem dX6_follow_97 : decode cX6_follow 97 = .ok (.aload_n 0, 1) := by decide +kernel
theorem dX6_follow_98 : decode cX6_follow 98 = .ok (.getfield 79, 3) := by decide +kernel
theorem dX6_follow_101 : decode cX6_follow 101 = .ok (.aload_n 0, 1) := by decide +kernel
theorem dX6_follow_102 : decode cX6_follow 102 = .ok (.getfield 33, 3) := by decide +kernel
theorem dX6_follow_105 : decode cX6_follow 105 = .ok (.bipush 40, 2) := by decide +kernel
theorem dX6_follow_107 : decode cX6_follow 107 = .ok (.iload_n 2, 1) := by decide +kernel
theorem dX6_follow_108 : decode cX6_follow 108 = .ok (.imul, 1) := by decide +kernel
theorem dX6_follow_109 : decode cX6_follow 109 = .ok (.iload_n 3, 1) := by decide +kernel
theorem dX6_follow_110 : decode cX6_follow 110 = .ok (.iadd, 1) := by decide +kernel
theorem dX6_follow_111 : decode cX6_follow 111 = .ok (.iaload, 1) := by decide +kernel
theorem dX6_follow_112 : decode cX6_follow 112 = .ok (.iastore, 1) := by decide +kernel
theorem dX6_follow_113 : decode cX6_follow 113 = .ok (.aload_n 0, 1) := by decide +kernel
theorem dX6_follow_114 : decode cX6_follow 114 = .ok (.getfield 17, 3) := by decide +kernel
theorem dX6_follow_117 : decode cX6_follow 117 = .ok (.aload_n 0, 1) := by decide +kernel
theorem dX6_follow_118 : decode cX6_follow 118 = .ok (.getfield 79, 3) := by decide +kernel
theorem dX6_follow_121 : decode cX6_follow 121 = .ok (.aload_n 0, 1) := by decide +kernel
theorem dX6_follow_122 : decode cX6_follow 122 = .ok (.getfield 36, 3) := by decide +kernel
theorem dX6_follow_125 : decode cX6_follow 125 = .ok (.bipush 40, 2) := by decide +kernel
theorem dX6_follow_127 : decode cX6_follow 127 = .ok (.iload_n 2, 1) := by decide +kernel
theorem dX6_follow_128 : decode cX6_follow 128 = .ok (.imul, 1) := by decide +kernel
theorem dX6_follow_129 : decode cX6_follow 129 = .ok (.iload_n 3, 1) := by decide +kernel
theorem dX6_follow_130 : decode cX6_follow 130 = .ok (.iadd, 1) := by decide +kernel
theorem dX6_follow_131 : decode cX6_follow 131 = .ok (.iaload, 1) := by decide +kernel
theorem dX6_follow_132 : decode cX6_follow 132 = .ok (.iastore, 1) := by decide +kernel
theorem dX6_follow_133 : decode cX6_follow 133 = .ok (.aload_n 0, 1) := by decide +kernel
theorem dX6_follow_134 : decode cX6_follow 134 = .ok (.getfield 20, 3) := by decide +kernel
theorem dX6_follow_137 : decode cX6_follow 137 = .ok (.aload_n 0, 1) := by decide +kernel
theorem dX6_follow_138 : decode cX6_follow 138 = .ok (.getfield 79, 3) := by decide +kernel
theorem dX6_follow_141 : decode cX6_follow 141 = .ok (.aload_n 0, 1) := by decide +kernel
theorem dX6_follow_142 : decode cX6_follow 142 = .ok (.getfield 39, 3) := by decide +kernel
theorem dX6_follow_145 : decode cX6_follow 145 = .ok (.bipush 40, 2) := by decide +kernel
theorem dX6_follow_147 : decode cX6_follow 147 = .ok (.iload_n 2, 1) := by decide +kernel
theorem dX6_follow_148 : decode cX6_follow 148 = .ok (.imul, 1) := by decide +kernel
theorem dX6_follow_149 : decode cX6_follow 149 = .ok (.iload_n 3, 1) := by decide +kernel
theorem dX6_follow_150 : decode cX6_follow 150 = .ok (.iadd, 1) := by decide +kernel
theorem dX6_follow_151 : decode cX6_follow 151 = .ok (.iaload, 1) := by decide +kernel
theorem dX6_follow_152 : decode cX6_follow 152 = .ok (.iastore, 1) := by decide +kernel
theorem dX6_follow_153 : decode cX6_follow 153 = .ok (.aload_n 0, 1) := by decide +kernel
theorem dX6_follow_154 : decode cX6_follow 154 = .ok (.getfield 23, 3) := by decide +kernel
theorem dX6_follow_157 : decode cX6_follow 157 = .ok (.aload_n 0, 1) := by decide +kernel
theorem dX6_follow_158 : decode cX6_follow 158 = .ok (.getfield 79, 3) := by decide +kernel
theorem dX6_follow_161 : decode cX6_follow 161 = .ok (.aload_n 0, 1) := by decide +kernel
theorem dX6_follow_162 : decode cX6_follow 162 = .ok (.getfield 42, 3) := by decide +kernel
theorem dX6_follow_165 : decode cX6_follow 165 = .ok (.bipush 40, 2) := by decide +kernel
theorem dX6_follow_167 : decode cX6_follow 167 = .ok (.iload_n 2, 1) := by decide +kernel
theorem dX6_follow_168 : decode cX6_follow 168 = .ok (.imul, 1) := by decide +kernel
theorem dX6_follow_169 : decode cX6_follow 169 = .ok (.iload_n 3, 1) := by decide +kernel
theorem dX6_follow_170 : decode cX6_follow 170 = .ok (.iadd, 1) := by decide +kernel
theorem dX6_follow_171 : decode cX6_follow 171 = .ok (.baload, 1) := by decide +kernel
theorem dX6_follow_172 : decode cX6_follow 172 = .ok (.bastore, 1) := by decide +kernel
theorem dX6_follow_173 : decode cX6_follow 173 = .ok (.aload_n 0, 1) := by decide +kernel
theorem dX6_follow_174 : decode cX6_follow 174 = .ok (.dup, 1) := by decide +kernel
theorem dX6_follow_175 : decode cX6_follow 175 = .ok (.getfield 79, 3) := by decide +kernel
theorem dX6_follow_178 : decode cX6_follow 178 = .ok (.iconst 1, 1) := by decide +kernel
theorem dX6_follow_179 : decode cX6_follow 179 = .ok (.iadd, 1) := by decide +kernel
theorem dX6_follow_180 : decode cX6_follow 180 = .ok (.putfield 79, 3) := by decide +kernel
theorem dX6_follow_183 : decode cX6_follow 183 = .ok (.iinc 3 1, 3) := by decide +kernel
theorem dX6_follow_186 : decode cX6_follow 186 = .ok (.goto (-103), 3) := by decide +kernel
theorem dX6_follow_189 : decode cX6_follow 189 = .ok (.aload_n 0, 1) := by decide +kernel
theorem dX6_follow_190 : decode cX6_follow 190 = .ok (.getfield 79, 3) := by decide +kernel
theorem dX6_follow_193 : decode cX6_follow 193 = .ok (.ireturn, 1) := by decide +kernel
set_option maxRecDepth 20000 in
theorem ggX6_unlike_X6_isSlot : GoodIn wsX6_unlike wsX6_isSlot := goodIn_r _ [8, 9, 10, 7, 11] (by decide +kernel) (by decide +kernel)
set_option maxRecDepth 20000 in
theorem gX6_unlike_X6_isSlot : GoodIn wsX6_unlike (va_wsS RX6 190 yX6_isSlot wsX6_isSlot) := goodIn_app (goodIn_of _ (by decide +kernel)) ggX6_unlike_X6_isSlot
set_option maxRecDepth 20000 in
theorem ggX6_unlike_X6_found : GoodIn wsX6_unlike wsX6_found := goodIn_r _ [15, 16, 49, 50, 51, 52, 53, 54, 55, 56, 57, 58, 59, 60, 61, 62, 63, 64, 65, 66, 67, 68, 69, 70, 71, 72, 73] (by decide +kernel) (by decide +kernel)
set_option maxRecDepth 20000 in
theorem gX6_unlike_X6_found : GoodIn wsX6_unlike (wsV RX6 93 RX6 yX6_found wsX6_found) := goodIn_app (goodIn_of _ (by decide +kernel)) ggX6_unlike_X6_found
set_option maxRecDepth 20000 in
theorem ggX6_unlike_X6_rows : GoodIn wsX6_unlike wsX6_rows := goodIn_r _ [20, 2, 49, 50, 51, 52, 53, 54, 55, 56, 57, 58, 59, 60, 61, 62, 63, 64, 65, 66, 67, 68, 69, 70, 71, 72, 73] (by decide +kernel) (by decide +kernel)
set_option maxRecDepth 20000 in
theorem gX6_unlike_X6_rows : GoodIn wsX6_unlike (wsV RX6 162 RX6 yX6_rows wsX6_rows) := goodIn_app (goodIn_of _ (by decide +kernel)) ggX6_unlike_X6_rows
set_option maxRecDepth 20000 in
theorem ggX6_unlike_X6_goes : GoodIn wsX6_unlike wsX6_goes := goodIn_r _ [24, 25, 26, 27, 28, 7, 29, 30, 31, 32, 33, 34, 35, 49, 50, 51, 52, 53, 54, 55, 56, 57, 58, 59, 60, 61, 62, 63, 64, 65, 66, 67, 68, 69, 70, 71, 72, 73] (by decide +kernel) (by decide +kernel)
set_option maxRecDepth 20000 in
theorem gX6_unlike_X6_goes : GoodIn wsX6_unlike (wsV RX6 166 RX6 yX6_goes wsX6_goes) := goodIn_app (goodIn_of _ (by decide +kernel)) ggX6_unlike_X6_goes
set_option maxRecDepth 20000 in
theorem ggX6_unlike_X6_store : GoodIn wsX6_unlike wsX6_store := goodIn_r _ [39, 1, 2, 40, 4, 41, 34, 42, 25, 43, 26, 44, 35, 49, 50, 51, 52, 53, 54, 55, 56, 57, 58, 59, 60, 61, 62, 63, 64, 65, 66, 67, 68, 69, 70, 71, 72, 73] (by decide +kernel) (by decide +kernel)
set_option maxRecDepth 20000 in
theorem gX6_unlike_X6_store : GoodIn wsX6_unlike (wsV RX6 89 RX6 yX6_store wsX6_store) := goodIn_app (goodIn_of _ (by decide +kernel)) ggX6_unlike_X6_store
set_option maxRecDepth 20000 in
theorem ggX6_unlike_X6_restore : GoodIn wsX6_unlike wsX6_restore := goodIn_r _ [48, 1, 2, 40, 4, 34, 41, 25, 42, 26, 43, 35, 44, 49, 50, 51, 52, 53, 54, 55, 56, 57, 58, 59, 60, 61, 62, 63, 64, 65, 66, 67, 68, 69, 70, 71, 72, 73] (by decide +kernel) (by decide +kernel)
set_option maxRecDepth 20000 in
theorem gX6_unlike_X6_restore : GoodIn wsX6_unlike (wsV RX6 97 RX6 yX6_restore wsX6_restore) := goodIn_app (goodIn_of _ (by decide +kernel)) ggX6_unlike_X6_restore
theorem dX6_unlike_0 : decode cX6_unlike 0 = .ok (.iload_n 1, 1) := by decide +kernel
theorem dX6_unlike_1 : decode cX6_unlike 1 = .ok (.invokestatic 190, 3) := by decide +kernel
theorem dX6_unlike_4 : decode cX6_unlike 4 = .ok (.ifCond .ne 9, 3) := by decide +kernel
theorem dX6_unlike_7 : decode cX6_unlike 7 = .ok (.aload_n 0, 1) := by decide +kernel
theorem dX6_unlike_8 : decode cX6_unlike 8 = .ok (.iconst (-1), 1) := by decide +kernel
theorem dX6_unlike_9 : decode cX6_unlike 9 = .ok (.invokevirtual 93, 3) := by decide +kernel
theorem dX6_unlike_12 : decode cX6_unlike 12 = .ok (.ireturn, 1) := by decide +kernel
theorem dX6_unlike_13 : decode cX6_unlike 13 = .ok (.bipush 25, 2) := by decide +kernel
theorem dX6_unlike_15 : decode cX6_unlike 15 = .ok (.iload_n 1, 1) := by decide +kernel
theorem dX6_unlike_16 : decode cX6_unlike 16 = .ok (.iadd, 1) := by decide +kernel
theorem dX6_unlike_17 : decode cX6_unlike 17 = .ok (.istore_n 2, 1) := by decide +kernel
theorem dX6_unlike_18 : decode cX6_unlike 18 = .ok (.aload_n 0, 1) := by decide +kernel
theorem dX6_unlike_19 : decode cX6_unlike 19 = .ok (.getfield 27, 3) := by decide +kernel
theorem dX6_unlike_22 : decode cX6_unlike 22 = .ok (.iload_n 2, 1) := by decide +kernel
theorem dX6_unlike_23 : decode cX6_unlike 23 = .ok (.iaload, 1) := by decide +kernel
theorem dX6_unlike_24 : decode cX6_unlike 24 = .ok (.ifCond .ne 10, 3) := by decide +kernel
theorem dX6_unlike_27 : decode cX6_unlike 27 = .ok (.aload_n 0, 1) := by decide +kernel
theorem dX6_unlike_28 : decode cX6_unlike 28 = .ok (.bipush (-6), 2) := by decide +kernel
theorem dX6_unlike_30 : decode cX6_unlike 30 = .ok (.invokevirtual 93, 3) := by decide +kernel
theorem dX6_unlike_33 : decode cX6_unlike 33 = .ok (.ireturn, 1) := by decide +kernel
theorem dX6_unlike_34 : decode cX6_unlike 34 = .ok (.aload_n 0, 1) := by decide +kernel
theorem dX6_unlike_35 : decode cX6_unlike 35 = .ok (.getfield 27, 3) := by decide +kernel
theorem dX6_unlike_38 : decode cX6_unlike 38 = .ok (.iload_n 2, 1) := by decide +kernel
theorem dX6_unlike_39 : decode cX6_unlike 39 = .ok (.iaload, 1) := by decide +kernel
theorem dX6_unlike_40 : decode cX6_unlike 40 = .ok (.aload_n 0, 1) := by decide +kernel
theorem dX6_unlike_41 : decode cX6_unlike 41 = .ok (.getfield 7, 3) := by decide +kernel
theorem dX6_unlike_44 : decode cX6_unlike 44 = .ok (.if_icmp .eq 10, 3) := by decide +kernel
theorem dX6_unlike_47 : decode cX6_unlike 47 = .ok (.aload_n 0, 1) := by decide +kernel
theorem dX6_unlike_48 : decode cX6_unlike 48 = .ok (.bipush (-3), 2) := by decide +kernel
theorem dX6_unlike_50 : decode cX6_unlike 50 = .ok (.invokevirtual 93, 3) := by decide +kernel
theorem dX6_unlike_53 : decode cX6_unlike 53 = .ok (.ireturn, 1) := by decide +kernel
theorem dX6_unlike_54 : decode cX6_unlike 54 = .ok (.iconst 0, 1) := by decide +kernel
theorem dX6_unlike_55 : decode cX6_unlike 55 = .ok (.istore_n 3, 1) := by decide +kernel
theorem dX6_unlike_56 : decode cX6_unlike 56 = .ok (.iload_n 3, 1) := by decide +kernel
theorem dX6_unlike_57 : decode cX6_unlike 57 = .ok (.aload_n 0, 1) := by decide +kernel
theorem dX6_unlike_58 : decode cX6_unlike 58 = .ok (.invokevirtual 162, 3) := by decide +kernel
theorem dX6_unlike_61 : decode cX6_unlike 61 = .ok (.if_icmp .ge 25, 3) := by decide +kernel
theorem dX6_unlike_64 : decode cX6_unlike 64 = .ok (.aload_n 0, 1) := by decide +kernel
theorem dX6_unlike_65 : decode cX6_unlike 65 = .ok (.getfield 73, 3) := by decide +kernel
theorem dX6_unlike_68 : decode cX6_unlike 68 = .ok (.iload_n 3, 1) := by decide +kernel
theorem dX6_unlike_69 : decode cX6_unlike 69 = .ok (.aload_n 0, 1) := by decide +kernel
theorem dX6_unlike_70 : decode cX6_unlike 70 = .ok (.iload_n 3, 1) := by decide +kernel
theorem dX6_unlike_71 : decode cX6_unlike 71 = .ok (.aload_n 0, 1) := by decide +kernel
theorem dX6_unlike_72 : decode cX6_unlike 72 = .ok (.getfield 79, 3) := by decide +kernel
theorem dX6_unlike_75 : decode cX6_unlike 75 = .ok (.iconst (-1), 1) := by decide +kernel
theorem dX6_unlike_76 : decode cX6_unlike 76 = .ok (.invokevirtual 166, 3) := by decide +kernel
theorem dX6_unlike_79 : decode cX6_unlike 79 = .ok (.iastore, 1) := by decide +kernel
theorem dX6_unlike_80 : decode cX6_unlike 80 = .ok (.iinc 3 1, 3) := by decide +kernel
theorem dX6_unlike_83 : decode cX6_unlike 83 = .ok (.goto (-27), 3) := by decide +kernel
theorem dX6_unlike_86 : decode cX6_unlike 86 = .ok (.aload_n 0, 1) := by decide +kernel
theorem dX6_unlike_87 : decode cX6_unlike 87 = .ok (.bipush 29, 2) := by decide +kernel
theorem dX6_unlike_89 : decode cX6_unlike 89 = .ok (.invokevirtual 89, 3) := by decide +kernel
theorem dX6_unlike_92 : decode cX6_unlike 92 = .ok (.aload_n 0, 1) := by decide +kernel
theorem dX6_unlike_93 : decode cX6_unlike 93 = .ok (.iload_n 2, 1) := by decide +kernel
theorem dX6_unlike_94 : decode cX6_unlike 94 = .ok (.invokevirtual 97, 3) := by decide +kernel
theorem dX6_unlike_97 : decode cX6_unlike 97 = .ok (.iconst (-1), 1) := by decide +kernel
theorem dX6_unlike_98 : decode cX6_unlike 98 = .ok (.istore_n 3, 1) := by decide +kernel
theorem dX6_unlike_99 : decode cX6_unlike 99 = .ok (.aload_n 0, 1) := by decide +kernel
theorem dX6_unlike_100 : decode cX6_unlike 100 = .ok (.invokevirtual 162, 3) := by decide +kernel
theorem dX6_unlike_103 : decode cX6_unlike 103 = .ok (.iconst 1, 1) := by decide +kernel
theorem dX6_unlike_104 : decode cX6_unlike 104 = .ok (.isub, 1) := by decide +kernel
theorem dX6_unlike_105 : decode cX6_unlike 105 = .ok (.istore 4, 2) := by decide +kernel
theorem dX6_unlike_107 : decode cX6_unlike 107 = .ok (.iload 4, 2) := by decide +kernel
theorem dX6_unlike_109 : decode cX6_unlike 109 = .ok (.ifCond .lt 33, 3) := by decide +kernel
theorem dX6_unlike_112 : decode cX6_unlike 112 = .ok (.aload_n 0, 1) := by decide +kernel
theorem dX6_unlike_113 : decode cX6_unlike 113 = .ok (.iload 4, 2) := by decide +kernel
theorem dX6_unlike_115 : decode cX6_unlike 115 = .ok (.aload_n 0, 1) := by decide +kernel
theorem dX6_unlike_116 : decode cX6_unlike 116 = .ok (.getfield 79, 3) := by decide +kernel
theorem dX6_unlike_119 : decode cX6_unlike 119 = .ok (.iconst (-1), 1) := by decide +kernel
theorem dX6_unlike_120 : decode cX6_unlike 120 = .ok (.invokevirtual 166, 3) := by decide +kernel
theorem dX6_unlike_123 : decode cX6_unlike 123 = .ok (.aload_n 0, 1) := by decide +kernel
theorem dX6_unlike_124 : decode cX6_unlike 124 = .ok (.getfield 73, 3) := by decide +kernel
theorem dX6_unlike_127 : decode cX6_unlike 127 = .ok (.iload 4, 2) := by decide +kernel
theorem dX6_unlike_129 : decode cX6_unlike 129 = .ok (.iaload, 1) := by decide +kernel
theorem dX6_unlike_130 : decode cX6_unlike 130 = .ok (.if_icmp .eq 6, 3) := by decide +kernel
theorem dX6_unlike_133 : decode cX6_unlike 133 = .ok (.iload 4, 2) := by decide +kernel
theorem dX6_unlike_135 : decode cX6_unlike 135 = .ok (.istore_n 3, 1) := by decide +kernel
theorem dX6_unlike_136 : decode cX6_unlike 136 = .ok (.iinc 4 (-1), 3) := by decide +kernel
theorem dX6_unlike_139 : decode cX6_unlike 139 = .ok (.goto (-32), 3) := by decide +kernel
theorem dX6_unlike_142 : decode cX6_unlike 142 = .ok (.aload_n 0, 1) := by decide +kernel
theorem dX6_unlike_143 : decode cX6_unlike 143 = .ok (.bipush 29, 2) := by decide +kernel
theorem dX6_unlike_145 : decode cX6_unlike 145 = .ok (.invokevirtual 97, 3) := by decide +kernel
theorem dX6_unlike_148 : decode cX6_unlike 148 = .ok (.iload_n 3, 1) := by decide +kernel
theorem dX6_unlike_149 : decode cX6_unlike 149 = .ok (.ifCond .ge 12, 3) := by decide +kernel
theorem dX6_unlike_152 : decode cX6_unlike 152 = .ok (.aload_n 0, 1) := by decide +kernel
theorem dX6_unlike_153 : decode cX6_unlike 153 = .ok (.bipush (-8), 2) := by decide +kernel
theorem dX6_unlike_155 : decode cX6_unlike 155 = .ok (.invokevirtual 93, 3) := by decide +kernel
theorem dX6_unlike_158 : decode cX6_unlike 158 = .ok (.goto 4, 3) := by decide +kernel
theorem dX6_unlike_161 : decode cX6_unlike 161 = .ok (.iload_n 3, 1) := by decide +kernel
theorem dX6_unlike_162 : decode cX6_unlike 162 = .ok (.ireturn, 1) := by decide +kernel
set_option maxRecDepth 20000 in
theorem ggX6_tell_X6_found : GoodIn wsX6_tell wsX6_found := goodIn_r _ [7, 8, 9, 10, 11, 12, 13, 14, 15, 16, 17, 18, 19, 20, 21, 22, 23, 24, 25, 26, 27, 28, 29, 30, 31, 32, 33] (by decide +kernel) (by decide +kernel)
set_option maxRecDepth 20000 in
theorem gX6_tell_X6_found : GoodIn wsX6_tell (wsV RX6 93 RX6 yX6_found wsX6_found) := goodIn_app (goodIn_of _ (by decide +kernel)) ggX6_tell_X6_found
theorem dX6_tell_0 : decode cX6_tell 0 = .ok (.aload_n 0, 1) := by decide +kernel
theorem dX6_tell_1 : decode cX6_tell 1 = .ok (.getfield 193, 3) := by decide +kernel
theorem dX6_tell_4 : decode cX6_tell 4 = .ok (.bipush 80, 2) := by decide +kernel
theorem dX6_tell_6 : decode cX6_tell 6 = .ok (.if_icmp .ne 10, 3) := by decide +kernel
theorem dX6_tell_9 : decode cX6_tell 9 = .ok (.aload_n 0, 1) := by decide +kernel
theorem dX6_tell_10 : decode cX6_tell 10 = .ok (.bipush (-5), 2) := by decide +kernel
theorem dX6_tell_12 : decode cX6_tell 12 = .ok (.invokevirtual 93, 3) := by decide +kernel
theorem dX6_tell_15 : decode cX6_tell 15 = .ok (.ireturn, 1) := by decide +kernel
theorem dX6_tell_16 : decode cX6_tell 16 = .ok (.aload_n 0, 1) := by decide +kernel
theorem dX6_tell_17 : decode cX6_tell 17 = .ok (.getfield 55, 3) := by decide +kernel
theorem dX6_tell_20 : decode cX6_tell 20 = .ok (.aload_n 0, 1) := by decide +kernel
theorem dX6_tell_21 : decode cX6_tell 21 = .ok (.getfield 193, 3) := by decide +kernel
theorem dX6_tell_24 : decode cX6_tell 24 = .ok (.iload_n 1, 1) := by decide +kernel
theorem dX6_tell_25 : decode cX6_tell 25 = .ok (.iastore, 1) := by decide +kernel
theorem dX6_tell_26 : decode cX6_tell 26 = .ok (.aload_n 0, 1) := by decide +kernel
theorem dX6_tell_27 : decode cX6_tell 27 = .ok (.dup, 1) := by decide +kernel
theorem dX6_tell_28 : decode cX6_tell 28 = .ok (.getfield 193, 3) := by decide +kernel
theorem dX6_tell_31 : decode cX6_tell 31 = .ok (.iconst 1, 1) := by decide +kernel
theorem dX6_tell_32 : decode cX6_tell 32 = .ok (.iadd, 1) := by decide +kernel
theorem dX6_tell_33 : decode cX6_tell 33 = .ok (.putfield 193, 3) := by decide +kernel
theorem dX6_tell_36 : decode cX6_tell 36 = .ok (.aload_n 0, 1) := by decide +kernel
theorem dX6_tell_37 : decode cX6_tell 37 = .ok (.getfield 193, 3) := by decide +kernel
theorem dX6_tell_40 : decode cX6_tell 40 = .ok (.ireturn, 1) := by decide +kernel
set_option maxRecDepth 20000 in
theorem ggX6_would_X6_found : GoodIn wsX6_would wsX6_found := goodIn_r _ [8, 9, 41, 42, 43, 44, 45, 46, 47, 48, 49, 50, 51, 52, 53, 54, 55, 56, 57, 58, 59, 60, 61, 62, 63, 64, 65] (by decide +kernel) (by decide +kernel)
set_option maxRecDepth 20000 in
theorem gX6_would_X6_found : GoodIn wsX6_would (wsV RX6 93 RX6 yX6_found wsX6_found) := goodIn_app (goodIn_of _ (by decide +kernel)) ggX6_would_X6_found
set_option maxRecDepth 20000 in
theorem ggX6_would_X6_isLane : GoodIn wsX6_would wsX6_isLane := goodIn_r _ [13, 14, 15, 16, 7, 17, 41, 42, 43, 44, 45, 46, 47, 48, 49, 50, 51, 52, 53, 54, 55, 56, 57, 58, 59, 60, 61, 62, 63, 64, 65] (by decide +kernel) (by decide +kernel)
set_option maxRecDepth 20000 in
theorem gX6_would_X6_isLane : GoodIn wsX6_would (wsV RX6 103 RX6 yX6_isLane wsX6_isLane) := goodIn_app (goodIn_of _ (by decide +kernel)) ggX6_would_X6_isLane
set_option maxRecDepth 20000 in
theorem ggX6_would_X6_rows : GoodIn wsX6_would wsX6_rows := goodIn_r _ [21, 14, 41, 42, 43, 44, 45, 46, 47, 48, 49, 50, 51, 52, 53, 54, 55, 56, 57, 58, 59, 60, 61, 62, 63, 64, 65] (by decide +kernel) (by decide +kernel)
set_option maxRecDepth 20000 in
theorem gX6_would_X6_rows : GoodIn wsX6_would (wsV RX6 162 RX6 yX6_rows wsX6_rows) := goodIn_app (goodIn_of _ (by decide +kernel)) ggX6_would_X6_rows
set_option maxRecDepth 20000 in
theorem ggX6_would_X6_goes : GoodIn wsX6_would wsX6_goes := goodIn_r _ [25, 26, 27, 28, 29, 7, 30, 31, 32, 33, 34, 35, 36, 41, 42, 43, 44, 45, 46, 47, 48, 49, 50, 51, 52, 53, 54, 55, 56, 57, 58, 59, 60, 61, 62, 63, 64, 65] (by decide +kernel) (by decide +kernel)
set_option maxRecDepth 20000 in
theorem gX6_would_X6_goes : GoodIn wsX6_would (wsV RX6 166 RX6 yX6_goes wsX6_goes) := goodIn_app (goodIn_of _ (by decide +kernel)) ggX6_would_X6_goes
set_option maxRecDepth 20000 in
theorem ggX6_would_X6_at : GoodIn wsX6_would wsX6_at := goodIn_r _ [30] (by decide +kernel) (by decide +kernel)
set_option maxRecDepth 20000 in
theorem gX6_would_X6_at : GoodIn wsX6_would (va_wsS RX6 159 yX6_at wsX6_at) := goodIn_app (goodIn_of _ (by decide +kernel)) ggX6_would_X6_at
set_option maxRecDepth 20000 in
theorem ggX6_would_X6_isRising : GoodIn wsX6_would wsX6_isRising := goodIn_r _ [40, 14, 28, 29, 7, 30, 41, 42, 43, 44, 45, 46, 47, 48, 49, 50, 51, 52, 53, 54, 55, 56, 57, 58, 59, 60, 61, 62, 63, 64, 65] (by decide +kernel) (by decide +kernel)
set_option maxRecDepth 20000 in
theorem gX6_would_X6_isRising : GoodIn wsX6_would (wsV RX6 169 RX6 yX6_isRising wsX6_isRising) := goodIn_app (goodIn_of _ (by decide +kernel)) ggX6_would_X6_isRising
theorem dX6_would_0 : decode cX6_would 0 = .ok (.aload_n 0, 1) := by decide +kernel
theorem dX6_would_1 : decode cX6_would 1 = .ok (.getfield 193, 3) := by decide +kernel
theorem dX6_would_4 : decode cX6_would 4 = .ok (.istore_n 1, 1) := by decide +kernel
theorem dX6_would_5 : decode cX6_would 5 = .ok (.aload_n 0, 1) := by decide +kernel
theorem dX6_would_6 : decode cX6_would 6 = .ok (.iconst 0, 1) := by decide +kernel
theorem dX6_would_7 : decode cX6_would 7 = .ok (.putfield 193, 3) := by decide +kernel
theorem dX6_would_10 : decode cX6_would 10 = .ok (.iload_n 1, 1) := by decide +kernel
theorem dX6_would_11 : decode cX6_would 11 = .ok (.iconst 2, 1) := by decide +kernel
theorem dX6_would_12 : decode cX6_would 12 = .ok (.irem, 1) := by decide +kernel
theorem dX6_would_13 : decode cX6_would 13 = .ok (.ifCond .eq 10, 3) := by decide +kernel
theorem dX6_would_16 : decode cX6_would 16 = .ok (.aload_n 0, 1) := by decide +kernel
theorem dX6_would_17 : decode cX6_would 17 = .ok (.bipush (-3), 2) := by decide +kernel
theorem dX6_would_19 : decode cX6_would 19 = .ok (.invokevirtual 93, 3) := by decide +kernel
theorem dX6_would_22 : decode cX6_would 22 = .ok (.ireturn, 1) := by decide +kernel
theorem dX6_would_23 : decode cX6_would 23 = .ok (.iconst 0, 1) := by decide +kernel
theorem dX6_would_24 : decode cX6_would 24 = .ok (.istore_n 2, 1) := by decide +kernel
theorem dX6_would_25 : decode cX6_would 25 = .ok (.iload_n 2, 1) := by decide +kernel
theorem dX6_would_26 : decode cX6_would 26 = .ok (.iload_n 1, 1) := by decide +kernel
theorem dX6_would_27 : decode cX6_would 27 = .ok (.if_icmp .ge 60, 3) := by decide +kernel
theorem dX6_would_30 : decode cX6_would 30 = .ok (.aload_n 0, 1) := by decide +kernel
theorem dX6_would_31 : decode cX6_would 31 = .ok (.aload_n 0, 1) := by decide +kernel
theorem dX6_would_32 : decode cX6_would 32 = .ok (.getfield 55, 3) := by decide +kernel
theorem dX6_would_35 : decode cX6_would 35 = .ok (.iload_n 2, 1) := by decide +kernel
theorem dX6_would_36 : decode cX6_would 36 = .ok (.iaload, 1) := by decide +kernel
theorem dX6_would_37 : decode cX6_would 37 = .ok (.invokevirtual 103, 3) := by decide +kernel
theorem dX6_would_40 : decode cX6_would 40 = .ok (.ifCond .eq 35, 3) := by decide +kernel
theorem dX6_would_43 : decode cX6_would 43 = .ok (.aload_n 0, 1) := by decide +kernel
theorem dX6_would_44 : decode cX6_would 44 = .ok (.aload_n 0, 1) := by decide +kernel
theorem dX6_would_45 : decode cX6_would 45 = .ok (.getfield 55, 3) := by decide +kernel
theorem dX6_would_48 : decode cX6_would 48 = .ok (.iload_n 2, 1) := by decide +kernel
theorem dX6_would_49 : decode cX6_would 49 = .ok (.iconst 1, 1) := by decide +kernel
theorem dX6_would_50 : decode cX6_would 50 = .ok (.iadd, 1) := by decide +kernel
theorem dX6_would_51 : decode cX6_would 51 = .ok (.iaload, 1) := by decide +kernel
theorem dX6_would_52 : decode cX6_would 52 = .ok (.invokevirtual 103, 3) := by decide +kernel
theorem dX6_would_55 : decode cX6_would 55 = .ok (.ifCond .eq 20, 3) := by decide +kernel
theorem dX6_would_58 : decode cX6_would 58 = .ok (.aload_n 0, 1) := by decide +kernel
theorem dX6_would_59 : decode cX6_would 59 = .ok (.getfield 55, 3) := by decide +kernel
theorem dX6_would_62 : decode cX6_would 62 = .ok (.iload_n 2, 1) := by decide +kernel
theorem dX6_would_63 : decode cX6_would 63 = .ok (.iaload, 1) := by decide +kernel
theorem dX6_would_64 : decode cX6_would 64 = .ok (.aload_n 0, 1) := by decide +kernel
theorem dX6_would_65 : decode cX6_would 65 = .ok (.getfield 55, 3) := by decide +kernel
theorem dX6_would_68 : decode cX6_would 68 = .ok (.iload_n 2, 1) := by decide +kernel
theorem dX6_would_69 : decode cX6_would 69 = .ok (.iconst 1, 1) := by decide +kernel
theorem dX6_would_70 : decode cX6_would 70 = .ok (.iadd, 1) := by decide +kernel
theorem dX6_would_71 : decode cX6_would 71 = .ok (.iaload, 1) := by decide +kernel
theorem dX6_would_72 : decode cX6_would 72 = .ok (.if_icmp .lt 9, 3) := by decide +kernel
theorem dX6_would_75 : decode cX6_would 75 = .ok (.aload_n 0, 1) := by decide +kernel
theorem dX6_would_76 : decode cX6_would 76 = .ok (.iconst (-1), 1) := by decide +kernel
theorem dX6_would_77 : decode cX6_would 77 = .ok (.invokevirtual 93, 3) := by decide +kernel
theorem dX6_would_80 : decode cX6_would 80 = .ok (.ireturn, 1) := by decide +kernel
theorem dX6_would_81 : decode cX6_would 81 = .ok (.iinc 2 2, 3) := by decide +kernel
theorem dX6_would_84 : decode cX6_would 84 = .ok (.goto (-59), 3) := by decide +kernel
theorem dX6_would_87 : decode cX6_would 87 = .ok (.iconst 0, 1) := by decide +kernel
theorem dX6_would_88 : decode cX6_would 88 = .ok (.istore_n 2, 1) := by decide +kernel
theorem dX6_would_89 : decode cX6_would 89 = .ok (.iload_n 2, 1) := by decide +kernel
theorem dX6_would_90 : decode cX6_would 90 = .ok (.aload_n 0, 1) := by decide +kernel
theorem dX6_would_91 : decode cX6_would 91 = .ok (.invokevirtual 162, 3) := by decide +kernel
theorem dX6_would_94 : decode cX6_would 94 = .ok (.if_icmp .ge 96, 3) := by decide +kernel
theorem dX6_would_97 : decode cX6_would 97 = .ok (.aload_n 0, 1) := by decide +kernel
theorem dX6_would_98 : decode cX6_would 98 = .ok (.iload_n 2, 1) := by decide +kernel
theorem dX6_would_99 : decode cX6_would 99 = .ok (.aload_n 0, 1) := by decide +kernel
theorem dX6_would_100 : decode cX6_would 100 = .ok (.getfield 79, 3) := by decide +kernel
theorem dX6_would_103 : decode cX6_would 103 = .ok (.iconst (-1), 1) := by decide +kernel
theorem dX6_would_104 : decode cX6_would 104 = .ok (.invokevirtual 166, 3) := by decide +kernel
theorem dX6_would_107 : decode cX6_would 107 = .ok (.istore_n 3, 1) := by decide +kernel
theorem dX6_would_108 : decode cX6_would 108 = .ok (.iconst 0, 1) := by decide +kernel
theorem dX6_would_109 : decode cX6_would 109 = .ok (.istore 4, 2) := by decide +kernel
theorem dX6_would_111 : decode cX6_would 111 = .ok (.iload 4, 2) := by decide +kernel
theorem dX6_would_113 : decode cX6_would 113 = .ok (.iload_n 1, 1) := by decide +kernel
theorem dX6_would_114 : decode cX6_would 114 = .ok (.if_icmp .ge 60, 3) := by decide +kernel
theorem dX6_would_117 : decode cX6_would 117 = .ok (.iload_n 3, 1) := by decide +kernel
theorem dX6_would_118 : decode cX6_would 118 = .ok (.aload_n 0, 1) := by decide +kernel
theorem dX6_would_119 : decode cX6_would 119 = .ok (.getfield 55, 3) := by decide +kernel
theorem dX6_would_122 : decode cX6_would 122 = .ok (.iload 4, 2) := by decide +kernel
theorem dX6_would_124 : decode cX6_would 124 = .ok (.iaload, 1) := by decide +kernel
theorem dX6_would_125 : decode cX6_would 125 = .ok (.invokestatic 159, 3) := by decide +kernel
theorem dX6_would_128 : decode cX6_would 128 = .ok (.iload_n 3, 1) := by decide +kernel
theorem dX6_would_129 : decode cX6_would 129 = .ok (.aload_n 0, 1) := by decide +kernel
theorem dX6_would_130 : decode cX6_would 130 = .ok (.getfield 55, 3) := by decide +kernel
theorem dX6_would_133 : decode cX6_would 133 = .ok (.iload 4, 2) := by decide +kernel
theorem dX6_would_135 : decode cX6_would 135 = .ok (.iconst 1, 1) := by decide +kernel
theorem dX6_would_136 : decode cX6_would 136 = .ok (.iadd, 1) := by decide +kernel
theorem dX6_would_137 : decode cX6_would 137 = .ok (.iaload, 1) := by decide +kernel
theorem dX6_would_138 : decode cX6_would 138 = .ok (.invokestatic 159, 3) := by decide +kernel
theorem dX6_would_141 : decode cX6_would 141 = .ok (.if_icmp .le 27, 3) := by decide +kernel
theorem dX6_would_144 : decode cX6_would 144 = .ok (.iload_n 3, 1) := by decide +kernel
theorem dX6_would_145 : decode cX6_would 145 = .ok (.iconst 1, 1) := by decide +kernel
theorem dX6_would_146 : decode cX6_would 146 = .ok (.aload_n 0, 1) := by decide +kernel
theorem dX6_would_147 : decode cX6_would 147 = .ok (.getfield 55, 3) := by decide +kernel
theorem dX6_would_150 : decode cX6_would 150 = .ok (.iload 4, 2) := by decide +kernel
theorem dX6_would_152 : decode cX6_would 152 = .ok (.iaload, 1) := by decide +kernel
theorem dX6_would_153 : decode cX6_would 153 = .ok (.ishl, 1) := by decide +kernel
theorem dX6_would_154 : decode cX6_would 154 = .ok (.ixor, 1) := by decide +kernel
theorem dX6_would_155 : decode cX6_would 155 = .ok (.iconst 1, 1) := by decide +kernel
theorem dX6_would_156 : decode cX6_would 156 = .ok (.aload_n 0, 1) := by decide +kernel
theorem dX6_would_157 : decode cX6_would 157 = .ok (.getfield 55, 3) := by decide +kernel
theorem dX6_would_160 : decode cX6_would 160 = .ok (.iload 4, 2) := by decide +kernel
theorem dX6_would_162 : decode cX6_would 162 = .ok (.iconst 1, 1) := by decide +kernel
theorem dX6_would_163 : decode cX6_would 163 = .ok (.iadd, 1) := by decide +kernel
theorem dX6_would_164 : decode cX6_would 164 = .ok (.iaload, 1) := by decide +kernel
theorem dX6_would_165 : decode cX6_would 165 = .ok (.ishl, 1) := by decide +kernel
theorem dX6_would_166 : decode cX6_would 166 = .ok (.ixor, 1) := by decide +kernel
theorem dX6_would_167 : decode cX6_would 167 = .ok (.istore_n 3, 1) := by decide +kernel
theorem dX6_would_168 : decode cX6_would 168 = .ok (.iinc 4 2, 3) := by decide +kernel
theorem dX6_would_171 : decode cX6_would 171 = .ok (.goto (-60), 3) := by decide +kernel
theorem dX6_would_174 : decode cX6_would 174 = .ok (.aload_n 0, 1) := by decide +kernel
theorem dX6_would_175 : decode cX6_would 175 = .ok (.iload_n 3, 1) := by decide +kernel
theorem dX6_would_176 : decode cX6_would 176 = .ok (.invokevirtual 169, 3) := by decide +kernel
theorem dX6_would_179 : decode cX6_would 179 = .ok (.ifCond .ne 5, 3) := by decide +kernel
theorem dX6_would_182 : decode cX6_would 182 = .ok (.iconst 0, 1) := by decide +kernel
theorem dX6_would_183 : decode cX6_would 183 = .ok (.ireturn, 1) := by decide +kernel
theorem dX6_would_184 : decode cX6_would 184 = .ok (.iinc 2 1, 3) := by decide +kernel
theorem dX6_would_187 : decode cX6_would 187 = .ok (.goto (-98), 3) := by decide +kernel
theorem dX6_would_190 : decode cX6_would 190 = .ok (.iconst 1, 1) := by decide +kernel
theorem dX6_would_191 : decode cX6_would 191 = .ok (.ireturn, 1) := by decide +kernel
set_option maxRecDepth 20000 in
theorem ggX6_told_X6_found : GoodIn wsX6_told wsX6_found := goodIn_r _ [9, 4, 10, 11, 12, 13, 14, 15, 16, 17, 18, 19, 20, 21, 22, 23, 24, 25, 26, 27, 28, 29, 30, 31, 32, 33, 34] (by decide +kernel) (by decide +kernel)
set_option maxRecDepth 20000 in
theorem gX6_told_X6_found : GoodIn wsX6_told (wsV RX6 93 RX6 yX6_found wsX6_found) := goodIn_app (goodIn_of _ (by decide +kernel)) ggX6_told_X6_found
theorem dX6_told_0 : decode cX6_told 0 = .ok (.iload_n 1, 1) := by decide +kernel
theorem dX6_told_1 : decode cX6_told 1 = .ok (.ifCond .ne 10, 3) := by decide +kernel
theorem dX6_told_4 : decode cX6_told 4 = .ok (.aload_n 0, 1) := by decide +kernel
theorem dX6_told_5 : decode cX6_told 5 = .ok (.getfield 7, 3) := by decide +kernel
theorem dX6_told_8 : decode cX6_told 8 = .ok (.goto 44, 3) := by decide +kernel
theorem dX6_told_11 : decode cX6_told 11 = .ok (.iload_n 1, 1) := by decide +kernel
theorem dX6_told_12 : decode cX6_told 12 = .ok (.iconst 1, 1) := by decide +kernel
theorem dX6_told_13 : decode cX6_told 13 = .ok (.if_icmp .ne 10, 3) := by decide +kernel
theorem dX6_told_16 : decode cX6_told 16 = .ok (.aload_n 0, 1) := by decide +kernel
theorem dX6_told_17 : decode cX6_told 17 = .ok (.getfield 79, 3) := by decide +kernel
theorem dX6_told_20 : decode cX6_told 20 = .ok (.goto 32, 3) := by decide +kernel
theorem dX6_told_23 : decode cX6_told 23 = .ok (.iload_n 1, 1) := by decide +kernel
theorem dX6_told_24 : decode cX6_told 24 = .ok (.iconst 2, 1) := by decide +kernel
theorem dX6_told_25 : decode cX6_told 25 = .ok (.if_icmp .ne 10, 3) := by decide +kernel
theorem dX6_told_28 : decode cX6_told 28 = .ok (.aload_n 0, 1) := by decide +kernel
theorem dX6_told_29 : decode cX6_told 29 = .ok (.getfield 193, 3) := by decide +kernel
theorem dX6_told_32 : decode cX6_told 32 = .ok (.goto 20, 3) := by decide +kernel
theorem dX6_told_35 : decode cX6_told 35 = .ok (.iload_n 1, 1) := by decide +kernel
theorem dX6_told_36 : decode cX6_told 36 = .ok (.iconst 3, 1) := by decide +kernel
theorem dX6_told_37 : decode cX6_told 37 = .ok (.if_icmp .ne 10, 3) := by decide +kernel
theorem dX6_told_40 : decode cX6_told 40 = .ok (.aload_n 0, 1) := by decide +kernel
theorem dX6_told_41 : decode cX6_told 41 = .ok (.getfield 76, 3) := by decide +kernel
theorem dX6_told_44 : decode cX6_told 44 = .ok (.goto 8, 3) := by decide +kernel
theorem dX6_told_47 : decode cX6_told 47 = .ok (.aload_n 0, 1) := by decide +kernel
theorem dX6_told_48 : decode cX6_told 48 = .ok (.iconst (-1), 1) := by decide +kernel
theorem dX6_told_49 : decode cX6_told 49 = .ok (.invokevirtual 93, 3) := by decide +kernel
theorem dX6_told_52 : decode cX6_told 52 = .ok (.ireturn, 1) := by decide +kernel
theorem dJ13_compare_74951_0 : decode cJ13_compare_74951 0 = .ok (.lload_n 0, 1) := by decide +kernel
theorem dJ13_compare_74951_1 : decode cJ13_compare_74951 1 = .ok (.lload_n 2, 1) := by decide +kernel
theorem dJ13_compare_74951_2 : decode cJ13_compare_74951 2 = .ok (.lcmp, 1) := by decide +kernel
theorem dJ13_compare_74951_3 : decode cJ13_compare_74951 3 = .ok (.ifCond .ge 7, 3) := by decide +kernel
theorem dJ13_compare_74951_6 : decode cJ13_compare_74951 6 = .ok (.iconst (-1), 1) := by decide +kernel
theorem dJ13_compare_74951_7 : decode cJ13_compare_74951 7 = .ok (.goto 14, 3) := by decide +kernel
theorem dJ13_compare_74951_10 : decode cJ13_compare_74951 10 = .ok (.lload_n 0, 1) := by decide +kernel
theorem dJ13_compare_74951_11 : decode cJ13_compare_74951 11 = .ok (.lload_n 2, 1) := by decide +kernel
theorem dJ13_compare_74951_12 : decode cJ13_compare_74951 12 = .ok (.lcmp, 1) := by decide +kernel
theorem dJ13_compare_74951_13 : decode cJ13_compare_74951 13 = .ok (.ifCond .ne 7, 3) := by decide +kernel
theorem dJ13_compare_74951_16 : decode cJ13_compare_74951 16 = .ok (.iconst 0, 1) := by decide +kernel
theorem dJ13_compare_74951_17 : decode cJ13_compare_74951 17 = .ok (.goto 4, 3) := by decide +kernel
theorem dJ13_compare_74951_20 : decode cJ13_compare_74951 20 = .ok (.iconst 1, 1) := by decide +kernel
theorem dJ13_compare_74951_21 : decode cJ13_compare_74951 21 = .ok (.ireturn, 1) := by decide +kernel
theorem dJ13_bitCount_95d88_0 : decode cJ13_bitCount_95d88 0 = .ok (.lload_n 0, 1) := by decide +kernel
theorem dJ13_bitCount_95d88_1 : decode cJ13_bitCount_95d88 1 = .ok (.lload_n 0, 1) := by decide +kernel
theorem dJ13_bitCount_95d88_2 : decode cJ13_bitCount_95d88 2 = .ok (.iconst 1, 1) := by decide +kernel
theorem dJ13_bitCount_95d88_3 : decode cJ13_bitCount_95d88 3 = .ok (.lushr, 1) := by decide +kernel
theorem dJ13_bitCount_95d88_4 : decode cJ13_bitCount_95d88 4 = .ok (.ldc2_w 314, 3) := by decide +kernel
theorem dJ13_bitCount_95d88_7 : decode cJ13_bitCount_95d88 7 = .ok (.land, 1) := by decide +kernel
theorem dJ13_bitCount_95d88_8 : decode cJ13_bitCount_95d88 8 = .ok (.lsub, 1) := by decide +kernel
theorem dJ13_bitCount_95d88_9 : decode cJ13_bitCount_95d88 9 = .ok (.lstore_n 0, 1) := by decide +kernel
theorem dJ13_bitCount_95d88_10 : decode cJ13_bitCount_95d88 10 = .ok (.lload_n 0, 1) := by decide +kernel
theorem dJ13_bitCount_95d88_11 : decode cJ13_bitCount_95d88 11 = .ok (.ldc2_w 316, 3) := by decide +kernel
theorem dJ13_bitCount_95d88_14 : decode cJ13_bitCount_95d88 14 = .ok (.land, 1) := by decide +kernel
theorem dJ13_bitCount_95d88_15 : decode cJ13_bitCount_95d88 15 = .ok (.lload_n 0, 1) := by decide +kernel
theorem dJ13_bitCount_95d88_16 : decode cJ13_bitCount_95d88 16 = .ok (.iconst 2, 1) := by decide +kernel
theorem dJ13_bitCount_95d88_17 : decode cJ13_bitCount_95d88 17 = .ok (.lushr, 1) := by decide +kernel
theorem dJ13_bitCount_95d88_18 : decode cJ13_bitCount_95d88 18 = .ok (.ldc2_w 316, 3) := by decide +kernel
theorem dJ13_bitCount_95d88_21 : decode cJ13_bitCount_95d88 21 = .ok (.land, 1) := by decide +kernel
theorem dJ13_bitCount_95d88_22 : decode cJ13_bitCount_95d88 22 = .ok (.ladd, 1) := by decide +kernel
theorem dJ13_bitCount_95d88_23 : decode cJ13_bitCount_95d88 23 = .ok (.lstore_n 0, 1) := by decide +kernel
theorem dJ13_bitCount_95d88_24 : decode cJ13_bitCount_95d88 24 = .ok (.lload_n 0, 1) := by decide +kernel
theorem dJ13_bitCount_95d88_25 : decode cJ13_bitCount_95d88 25 = .ok (.lload_n 0, 1) := by decide +kernel
theorem dJ13_bitCount_95d88_26 : decode cJ13_bitCount_95d88 26 = .ok (.iconst 4, 1) := by decide +kernel
theorem dJ13_bitCount_95d88_27 : decode cJ13_bitCount_95d88 27 = .ok (.lushr, 1) := by decide +kernel
theorem dJ13_bitCount_95d88_28 : decode cJ13_bitCount_95d88 28 = .ok (.ladd, 1) := by decide +kernel
theorem dJ13_bitCount_95d88_29 : decode cJ13_bitCount_95d88 29 = .ok (.ldc2_w 318, 3) := by decide +kernel
theorem dJ13_bitCount_95d88_32 : decode cJ13_bitCount_95d88 32 = .ok (.land, 1) := by decide +kernel
theorem dJ13_bitCount_95d88_33 : decode cJ13_bitCount_95d88 33 = .ok (.lstore_n 0, 1) := by decide +kernel
theorem dJ13_bitCount_95d88_34 : decode cJ13_bitCount_95d88 34 = .ok (.lload_n 0, 1) := by decide +kernel
theorem dJ13_bitCount_95d88_35 : decode cJ13_bitCount_95d88 35 = .ok (.lload_n 0, 1) := by decide +kernel
theorem dJ13_bitCount_95d88_36 : decode cJ13_bitCount_95d88 36 = .ok (.bipush 8, 2) := by decide +kernel
theorem dJ13_bitCount_95d88_38 : decode cJ13_bitCount_95d88 38 = .ok (.lushr, 1) := by decide +kernel
theorem dJ13_bitCount_95d88_39 : decode cJ13_bitCount_95d88 39 = .ok (.ladd, 1) := by decide +kernel
theorem dJ13_bitCount_95d88_40 : decode cJ13_bitCount_95d88 40 = .ok (.lstore_n 0, 1) := by decide +kernel
theorem dJ13_bitCount_95d88_41 : decode cJ13_bitCount_95d88 41 = .ok (.lload_n 0, 1) := by decide +kernel
theorem dJ13_bitCount_95d88_42 : decode cJ13_bitCount_95d88 42 = .ok (.lload_n 0, 1) := by decide +kernel
theorem dJ13_bitCount_95d88_43 : decode cJ13_bitCount_95d88 43 = .ok (.bipush 16, 2) := by decide +kernel
theorem dJ13_bitCount_95d88_45 : decode cJ13_bitCount_95d88 45 = .ok (.lushr, 1) := by decide +kernel
theorem dJ13_bitCount_95d88_46 : decode cJ13_bitCount_95d88 46 = .ok (.ladd, 1) := by decide +kernel
theorem dJ13_bitCount_95d88_47 : decode cJ13_bitCount_95d88 47 = .ok (.lstore_n 0, 1) := by decide +kernel
theorem dJ13_bitCount_95d88_48 : decode cJ13_bitCount_95d88 48 = .ok (.lload_n 0, 1) := by decide +kernel
theorem dJ13_bitCount_95d88_49 : decode cJ13_bitCount_95d88 49 = .ok (.lload_n 0, 1) := by decide +kernel
theorem dJ13_bitCount_95d88_50 : decode cJ13_bitCount_95d88 50 = .ok (.bipush 32, 2) := by decide +kernel
theorem dJ13_bitCount_95d88_52 : decode cJ13_bitCount_95d88 52 = .ok (.lushr, 1) := by decide +kernel
theorem dJ13_bitCount_95d88_53 : decode cJ13_bitCount_95d88 53 = .ok (.ladd, 1) := by decide +kernel
theorem dJ13_bitCount_95d88_54 : decode cJ13_bitCount_95d88 54 = .ok (.lstore_n 0, 1) := by decide +kernel
theorem dJ13_bitCount_95d88_55 : decode cJ13_bitCount_95d88 55 = .ok (.lload_n 0, 1) := by decide +kernel
theorem dJ13_bitCount_95d88_56 : decode cJ13_bitCount_95d88 56 = .ok (.l2i, 1) := by decide +kernel
theorem dJ13_bitCount_95d88_57 : decode cJ13_bitCount_95d88 57 = .ok (.bipush 127, 2) := by decide +kernel
theorem dJ13_bitCount_95d88_59 : decode cJ13_bitCount_95d88 59 = .ok (.iand, 1) := by decide +kernel
theorem dJ13_bitCount_95d88_60 : decode cJ13_bitCount_95d88 60 = .ok (.ireturn, 1) := by decide +kernel
theorem dJ9_max_7cf53_0 : decode cJ9_max_7cf53 0 = .ok (.iload_n 0, 1) := by decide +kernel
theorem dJ9_max_7cf53_1 : decode cJ9_max_7cf53 1 = .ok (.iload_n 1, 1) := by decide +kernel
theorem dJ9_max_7cf53_2 : decode cJ9_max_7cf53 2 = .ok (.if_icmp .lt 7, 3) := by decide +kernel
theorem dJ9_max_7cf53_5 : decode cJ9_max_7cf53 5 = .ok (.iload_n 0, 1) := by decide +kernel
theorem dJ9_max_7cf53_6 : decode cJ9_max_7cf53 6 = .ok (.goto 4, 3) := by decide +kernel
theorem dJ9_max_7cf53_9 : decode cJ9_max_7cf53 9 = .ok (.iload_n 1, 1) := by decide +kernel
theorem dJ9_max_7cf53_10 : decode cJ9_max_7cf53 10 = .ok (.ireturn, 1) := by decide +kernel
theorem dJ9_min_7cf53_0 : decode cJ9_min_7cf53 0 = .ok (.iload_n 0, 1) := by decide +kernel
theorem dJ9_min_7cf53_1 : decode cJ9_min_7cf53 1 = .ok (.iload_n 1, 1) := by decide +kernel
theorem dJ9_min_7cf53_2 : decode cJ9_min_7cf53 2 = .ok (.if_icmp .gt 7, 3) := by decide +kernel
theorem dJ9_min_7cf53_5 : decode cJ9_min_7cf53 5 = .ok (.iload_n 0, 1) := by decide +kernel
theorem dJ9_min_7cf53_6 : decode cJ9_min_7cf53 6 = .ok (.goto 4, 3) := by decide +kernel
theorem dJ9_min_7cf53_9 : decode cJ9_min_7cf53 9 = .ok (.iload_n 1, 1) := by decide +kernel
theorem dJ9_min_7cf53_10 : decode cJ9_min_7cf53 10 = .ok (.ireturn, 1) := by decide +kernel
end
section
/-! MY LAYER over the kit: one world of cells at B, B + 1, .., a memory as a function of the cell's number, and rows that speak of nothing else -/
abbrev Cx : Type := Program × Launch × Env × Room × State × MethodId × Array Value × List Frame × Method × Code
abbrev Vx : Type := va_G × (ClassId × ClassId × ClassId × ClassId × ClassId) × Nat × Nat × Nat × Bool
def ad (V : Vx) (k : Nat) : Nat := V.2.2.1 + k
def Ab (V : Vx) : Nat → Prop := fun q => V.2.2.1 ≤ q
def wl (V : Vx) (n : Nat) (M : Nat → va_E) : va_W := (List.range n).map (fun k => (ad V k, M k))
def tyV (V : Vx) : List (ClassId × FieldType) := [(V.2.1.1, .int), (V.2.1.2.1, .long), (V.2.1.2.2.1, .boolean), (V.2.1.2.2.2.1, .object "LaneNets$Crate"), (V.2.1.2.2.2.2, .object "LaneNets$Net")]
def kaF : Nat → Value := fun j => match j with
  | 0 => .int (-1)
  | 1 => .int 0
  | 2 => .int 0
  | 3 => .int 1
  | _ => .int 2
def fcF : Nat → Value := fun j => match j with
  | 0 => .long (-6148914691236517206)
  | 1 => .long (-3689348814741910324)
  | 2 => .long (-1085102592571150096)
  | 3 => .long (-71777214294589696)
  | 4 => .long (-281470681808896)
  | _ => .long (-4294967296)
def Kn (V : Vx) (U : State) (H : Heap) : Prop := va_K V.1 vwCl (tyV V) U ∧ va_Z "LaneNets" "KIND_ABOVE" "[I" (.ref V.2.2.2.1) (Ab V) U H ∧ va_T .int V.2.2.2.1 5 kaF (Ab V) U H ∧ va_Z "LaneNets$Rows" "FIRST_COLUMNS" "[J" (.ref V.2.2.2.2.1) (Ab V) U H ∧ va_T .long V.2.2.2.2.1 6 fcF (Ab V) U H
theorem Kn.moved {V : Vx} {u U : State} {H : Heap} (hvm : u.vm.Alike U.vm) (h : Kn V u H) : Kn V U H := ⟨va_K.moved hvm h.1, va_Z.moved hvm h.2.1, va_T.moved hvm h.2.2.1, va_Z.moved hvm h.2.2.2.1, va_T.moved hvm h.2.2.2.2⟩
theorem Kn.kept {V : Vx} {U : State} {H H1 : Heap} (h : Kn V U H) (hq : ∀ a : Nat, a < H.size → ¬ Ab V a → H1[a]? = H[a]?) : Kn V U H1 := ⟨h.1, va_Z.kept h.2.1 hq, va_T.kept h.2.2.1 hq, va_Z.kept h.2.2.2.1 hq, va_T.kept h.2.2.2.2 hq⟩
def sz (V : Vx) (n : Nat) (H : Heap) : Prop := V.2.2.2.2.2 = true → H.size = V.2.2.1 + n
def rmd (d mc ms : Nat) : Room := { frames := d, cells := mc, slots := ms, locals := 48 * d }
def CX (l : Launch) (X : Cx) (V : Vx) (own : String) (cc : ByteArray) (nL : Nat) (Ts : List Cond) (d mc ms : Nat) (ret : Option FieldType) : Prop :=
  X.2.1 = l ∧ X.2.2.2.1 = rmd d mc ms ∧ X.1.tables.exec = Jvm.exec ∧ X.2.2.2.2.2.2.2.2.2.code = cc ∧ X.2.2.2.2.2.2.2.2.2.maxLocals = nL ∧ X.2.2.2.2.1.vm.findClass own = some X.2.2.2.2.2.1.cls ∧ (∀ w ∈ Ts, w.before X.2.2.2.2.2.2.1 X.2.2.2.2.1 = true) ∧ Kn V X.2.2.2.2.1 X.2.2.2.2.1.heap ∧ V.2.2.1 ≤ X.2.2.2.2.1.heap.size ∧ X.2.2.2.2.2.2.2.2.1.locks = false ∧ X.2.2.2.2.2.2.2.2.1.sig.returnType = ret
def J (X : Cx) (V : Vx) (Q : State → Prop) (nL n cs sl pc : Nat) (ls : List (Nat × Value)) (st : List Value) (M : Nat → va_E) : Prop :=
  ∀ (H : Heap) (locs : List Loc) (la : Array Slot), sz V n H → va_P V.1 vwCl (wl V n M) H → va_S (Ab V) X.2.2.2.2.1.heap H locs → lv_has la nL ls → W X.1 X.2.1 X.2.2.1 X.2.2.2.1 X.2.2.2.2.1 X.2.2.2.2.2.1 X.2.2.2.2.2.2.1 X.2.2.2.2.2.2.2.1 X.2.2.2.2.2.2.2.2.1 X.2.2.2.2.2.2.2.2.2 H locs cs sl Q (F0 X.2.2.2.2.2.1 pc la st)
-- locals: looked up by their number, written in their place
def lk : List (Nat × Value) → Nat → Option Value
  | [], _ => none
  | (j, v) :: r, i => match Nat.beq i j with
    | true => some v
    | false => lk r i
theorem lk_mem : ∀ {l : List (Nat × Value)} {i : Nat} {v : Value}, lk l i = some v → (i, v) ∈ l
  | (j, w) :: r, i, v, h => by
    unfold lk at h
    cases hb : Nat.beq i j with
    | true =>
      rw [hb] at h
      have e : i = j := Nat.eq_of_beq_eq_true hb
      cases h
      rw [e]
      exact List.mem_cons_self
    | false =>
      rw [hb] at h
      exact List.mem_cons_of_mem _ (lk_mem h)
theorem lv_lk {la : Array Slot} {nL : Nat} {ls : List (Nat × Value)} (h : lv_has la nL ls) {i : Nat} {v : Value} (e : lk ls i = some v) : la[i]? = some (.val v) := h.2.2 (i, v) (lk_mem e)
theorem lv_of {la : Array Slot} {nL : Nat} {l l' : List (Nat × Value)} (h : lv_has la nL l) (hs : ∀ q ∈ l', q ∈ l) : lv_has la nL l' := ⟨h.1, h.2.1, fun q hq => h.2.2 q (hs q hq)⟩
-- a store of a word of category 1 at i: what overlaps goes
def ls1 (i : Nat) (v : Value) : List (Nat × Value) → Bool → List (Nat × Value)
  | [], true => []
  | [], false => [(i, v)]
  | (j, w) :: r, b => match Nat.beq j i with
    | true => match b with
      | true => ls1 i v r true
      | false => (i, v) :: ls1 i v r true
    | false => match Nat.beq (j + 1) i && Nat.beq w.category 2 with
      | true => ls1 i v r b
      | false => (j, w) :: ls1 i v r b
theorem ls1_mem (i : Nat) (v : Value) : ∀ (l : List (Nat × Value)) (b : Bool) (q : Nat × Value), q ∈ ls1 i v l b → q = (i, v) ∨ (q ∈ l ∧ q.1 ≠ i ∧ ¬ (q.1 + 1 = i ∧ q.2.category = 2))
  | [], true, q, h => by simp [ls1] at h
  | [], false, q, h => by simp [ls1] at h; exact Or.inl h
  | (j, w) :: r, b, q, h => by
    unfold ls1 at h
    cases h1 : Nat.beq j i with
    | true =>
      rw [h1] at h
      cases b with
      | true =>
        rcases ls1_mem i v r true q h with e | ⟨e, e2⟩
        · exact Or.inl e
        · exact Or.inr ⟨List.mem_cons_of_mem _ e, e2⟩
      | false =>
        rcases List.mem_cons.mp h with e | h
        · exact Or.inl e
        · rcases ls1_mem i v r true q h with e | ⟨e, e2⟩
          · exact Or.inl e
          · exact Or.inr ⟨List.mem_cons_of_mem _ e, e2⟩
    | false =>
      rw [h1] at h
      cases h2 : (Nat.beq (j + 1) i && Nat.beq w.category 2) with
      | true =>
        rw [h2] at h
        rcases ls1_mem i v r b q h with e | ⟨e, e2⟩
        · exact Or.inl e
        · exact Or.inr ⟨List.mem_cons_of_mem _ e, e2⟩
      | false =>
        rw [h2] at h
        rcases List.mem_cons.mp h with e | h
        · refine Or.inr ⟨by rw [e]; exact List.mem_cons_self, ?_, ?_⟩
          · rw [e]; exact Nat.ne_of_beq_eq_false h1
          · rw [e]
            intro hz
            rw [Bool.and_eq_false_iff] at h2
            rcases h2 with h2 | h2
            · exact Nat.ne_of_beq_eq_false h2 hz.1
            · exact Nat.ne_of_beq_eq_false h2 hz.2
        · rcases ls1_mem i v r b q h with e | ⟨e, e2⟩
          · exact Or.inl e
          · exact Or.inr ⟨List.mem_cons_of_mem _ e, e2⟩
-- a store of a word of category 2 at i, i + 1
def ls2 (i : Nat) (v : Value) : List (Nat × Value) → Bool → List (Nat × Value)
  | [], true => []
  | [], false => [(i, v)]
  | (j, w) :: r, b => match Nat.beq j i with
    | true => match b with
      | true => ls2 i v r true
      | false => (i, v) :: ls2 i v r true
    | false => match Nat.beq j (i + 1) || (Nat.beq (j + 1) i && Nat.beq w.category 2) with
      | true => ls2 i v r b
      | false => (j, w) :: ls2 i v r b
theorem ls2_mem (i : Nat) (v : Value) : ∀ (l : List (Nat × Value)) (b : Bool) (q : Nat × Value), q ∈ ls2 i v l b → q = (i, v) ∨ (q ∈ l ∧ q.1 ≠ i ∧ q.1 ≠ i + 1 ∧ ¬ (q.1 + 1 = i ∧ q.2.category = 2))
  | [], true, q, h => by simp [ls2] at h
  | [], false, q, h => by simp [ls2] at h; exact Or.inl h
  | (j, w) :: r, b, q, h => by
    unfold ls2 at h
    cases h1 : Nat.beq j i with
    | true =>
      rw [h1] at h
      cases b with
      | true =>
        rcases ls2_mem i v r true q h with e | ⟨e, e2⟩
        · exact Or.inl e
        · exact Or.inr ⟨List.mem_cons_of_mem _ e, e2⟩
      | false =>
        rcases List.mem_cons.mp h with e | h
        · exact Or.inl e
        · rcases ls2_mem i v r true q h with e | ⟨e, e2⟩
          · exact Or.inl e
          · exact Or.inr ⟨List.mem_cons_of_mem _ e, e2⟩
    | false =>
      rw [h1] at h
      cases h2 : (Nat.beq j (i + 1) || (Nat.beq (j + 1) i && Nat.beq w.category 2)) with
      | true =>
        rw [h2] at h
        rcases ls2_mem i v r b q h with e | ⟨e, e2⟩
        · exact Or.inl e
        · exact Or.inr ⟨List.mem_cons_of_mem _ e, e2⟩
      | false =>
        rw [h2] at h
        rw [Bool.or_eq_false_iff] at h2
        rcases List.mem_cons.mp h with e | h
        · refine Or.inr ⟨by rw [e]; exact List.mem_cons_self, ?_, ?_, ?_⟩
          · rw [e]; exact Nat.ne_of_beq_eq_false h1
          · rw [e]; exact Nat.ne_of_beq_eq_false h2.1
          · rw [e]
            intro hz
            have h3 := h2.2
            rw [Bool.and_eq_false_iff] at h3
            rcases h3 with h3 | h3
            · exact Nat.ne_of_beq_eq_false h3 hz.1
            · exact Nat.ne_of_beq_eq_false h3 hz.2
        · rcases ls2_mem i v r b q h with e | ⟨e, e2⟩
          · exact Or.inl e
          · exact Or.inr ⟨List.mem_cons_of_mem _ e, e2⟩
theorem ls1_ok {i : Nat} {v : Value} {l : List (Nat × Value)} {la : Array Slot} {nL : Nat} (h : lv_has la nL ((i, v) :: l.filter (fun q => !(q.1 == i) && !(q.1 + 1 == i && q.2.category == 2)))) : lv_has la nL (ls1 i v l false) := by
  refine lv_of h fun q hq => ?_
  rcases ls1_mem i v l false q hq with e | ⟨e, e1, e2⟩
  · rw [e]; exact List.mem_cons_self
  · refine List.mem_cons_of_mem _ (List.mem_filter.mpr ⟨e, ?_⟩)
    simp only [Bool.and_eq_true, Bool.not_eq_true', beq_eq_false_iff_ne, Bool.and_eq_false_iff]
    refine ⟨e1, ?_⟩
    by_cases h1 : q.1 + 1 = i
    · exact Or.inr fun h2 => e2 ⟨h1, h2⟩
    · exact Or.inl h1
theorem ls2_ok {i : Nat} {v : Value} {l : List (Nat × Value)} {la : Array Slot} {nL : Nat} (h : lv_has la nL ((i, v) :: l.filter (fun q => !(q.1 == i) && (!(q.1 == i + 1) && !(q.1 + 1 == i && q.2.category == 2))))) : lv_has la nL (ls2 i v l false) := by
  refine lv_of h fun q hq => ?_
  rcases ls2_mem i v l false q hq with e | ⟨e, e1, e3, e2⟩
  · rw [e]; exact List.mem_cons_self
  · refine List.mem_cons_of_mem _ (List.mem_filter.mpr ⟨e, ?_⟩)
    simp only [Bool.and_eq_true, Bool.not_eq_true', beq_eq_false_iff_ne, Bool.and_eq_false_iff]
    refine ⟨e1, e3, ?_⟩
    by_cases h1 : q.1 + 1 = i
    · exact Or.inr fun h2 => e2 ⟨h1, h2⟩
    · exact Or.inl h1
-- the world
theorem wl_get {V : Vx} {n k : Nat} {M : Nat → va_E} (h : k < n) : (wl V n M)[k]? = some (ad V k, M k) := by
  unfold wl
  rw [List.getElem?_map, List.getElem?_range h]
  rfl
theorem wl_len {V : Vx} {n : Nat} {M : Nat → va_E} : (wl V n M).length = n := by simp [wl]
theorem wl_at {V : Vx} {n k : Nat} {M : Nat → va_E} {q : Nat × va_E} (h : (wl V n M)[k]? = some q) : k < n ∧ q = (ad V k, M k) := by
  have hk : k < n := by
    have := (List.getElem?_eq_some_iff.mp h).1
    rwa [wl_len] at this
  rw [wl_get hk] at h
  exact ⟨hk, (Option.some.inj h).symm⟩
theorem wl_D {V : Vx} {n : Nat} {M : Nat → va_E} : va_D (Ab V) (wl V n M) := by
  refine ⟨fun i j p q hi hj e => ?_, fun k q hk => ?_⟩
  · obtain ⟨-, e1⟩ := wl_at hi
    obtain ⟨-, e2⟩ := wl_at hj
    subst e1; subst e2
    have e : V.2.2.1 + i = V.2.2.1 + j := e
    omega
  · obtain ⟨-, e⟩ := wl_at hk
    subst e
    exact Nat.le_add_right _ _
theorem wl_set {V : Vx} {n k : Nat} {M : Nat → va_E} {e : va_E} : (wl V n M).set k (ad V k, e) = wl V n (va_up M k e) := by
  refine List.ext_getElem? fun i => ?_
  by_cases hi : i < n
  · rw [wl_get hi]
    by_cases h : i = k
    · subst h
      rw [List.getElem?_set_self (by rw [wl_len]; exact hi)]
      simp [va_up]
    · rw [List.getElem?_set_ne (fun q => h q.symm), wl_get hi]
      simp [va_up, h]
  · rw [List.getElem?_eq_none (by rw [List.length_set, wl_len]; omega), List.getElem?_eq_none (by rw [wl_len]; omega)]
theorem wl_push {V : Vx} {n : Nat} {M : Nat → va_E} {e : va_E} : wl V n M ++ [(ad V n, e)] = wl V (n + 1) (va_up M n e) := by
  refine List.ext_getElem? fun i => ?_
  by_cases hi : i < n
  · rw [List.getElem?_append_left (by rw [wl_len]; exact hi), wl_get hi, wl_get (by omega)]
    simp [va_up, Nat.ne_of_lt hi]
  · rw [List.getElem?_append_right (by rw [wl_len]; omega), wl_len]
    by_cases h : i = n
    · subst h
      rw [wl_get (by omega)]
      simp [va_up]
    · rw [List.getElem?_eq_none (by simp; omega), List.getElem?_eq_none (by rw [wl_len]; omega)]
theorem wl_congr {V : Vx} {n : Nat} {M M' : Nat → va_E} (h : ∀ k, k < n → M k = M' k) : wl V n M = wl V n M' := by
  refine List.ext_getElem? fun i => ?_
  by_cases hi : i < n
  · rw [wl_get hi, wl_get hi, h i hi]
  · rw [List.getElem?_eq_none (by rw [wl_len]; omega), List.getElem?_eq_none (by rw [wl_len]; omega)]
end
section
section
variable {l : Launch} {X : Cx} {V : Vx} {Q : State → Prop} {own : String} {cc : ByteArray} {nL n cs sl pc d mc ms : Nat} {Ts : List Cond} {ret : Option FieldType} {ls ls' : List (Nat × Value)} {st : List Value} {M : Nat → va_E}
theorem J.iconst (C : CX l X V own cc nL Ts d mc ms ret) {z : Int} {v : Int32} (hd : decode cc pc = .ok (.iconst z, 1)) (hv : Int32.ofInt z = v) (kk : J X V Q nL n cs sl (pc + 1) ls (.int v :: st) M) : J X V Q nL n cs sl pc ls st M := fun H locs la h1 h2 h3 h4 => lv_iconst C.2.2.1 C.2.2.2.1 hd hv (kk H locs la h1 h2 h3 h4)
theorem J.bipush (C : CX l X V own cc nL Ts d mc ms ret) {z : Int} {v : Int32} (hd : decode cc pc = .ok (.bipush z, 2)) (hv : (Int8.ofInt z).toInt32 = v) (kk : J X V Q nL n cs sl (pc + 2) ls (.int v :: st) M) : J X V Q nL n cs sl pc ls st M := fun H locs la h1 h2 h3 h4 => lv_bipush C.2.2.1 C.2.2.2.1 hd hv (kk H locs la h1 h2 h3 h4)
theorem J.sipush (C : CX l X V own cc nL Ts d mc ms ret) {z : Int} {v : Int32} (hd : decode cc pc = .ok (.sipush z, 3)) (hv : (Int16.ofInt z).toInt32 = v) (kk : J X V Q nL n cs sl (pc + 3) ls (.int v :: st) M) : J X V Q nL n cs sl pc ls st M := fun H locs la h1 h2 h3 h4 => lv_sipush C.2.2.1 C.2.2.2.1 hd hv (kk H locs la h1 h2 h3 h4)
theorem J.lconst (C : CX l X V own cc nL Ts d mc ms ret) {z : Fin 2} {v : Int64} (hd : decode cc pc = .ok (.lconst z, 1)) (hv : Int64.ofNat (z : Nat) = v) (kk : J X V Q nL n cs sl (pc + 1) ls (.long v :: st) M) : J X V Q nL n cs sl pc ls st M := fun H locs la h1 h2 h3 h4 => lv_lconst C.2.2.1 C.2.2.2.1 hd hv (kk H locs la h1 h2 h3 h4)
theorem J.ldc (C : CX l X V own cc nL Ts d mc ms ret) {index : Nat} {v : Int32} (hw : Jvm.Cond.constant own index v ∈ Ts) (hd : decode cc pc = .ok (.ldc index, 2)) (kk : J X V Q nL n cs sl (pc + 2) ls (.int v :: st) M) : J X V Q nL n cs sl pc ls st M := fun H locs la h1 h2 h3 h4 => lv_ldc C.2.2.1 C.2.2.2.1 C.2.2.2.2.2.1 (C.2.2.2.2.2.2.1 _ hw) hd (kk H locs la h1 h2 h3 h4)
theorem J.ldc2 (C : CX l X V own cc nL Ts d mc ms ret) {index : Nat} {v : Int64} (hw : Jvm.Cond.constantLong own index v ∈ Ts) (hd : decode cc pc = .ok (.ldc2_w index, 3)) (kk : J X V Q nL n cs sl (pc + 3) ls (.long v :: st) M) : J X V Q nL n cs sl pc ls st M := fun H locs la h1 h2 h3 h4 => lv_ldc2 C.2.2.1 C.2.2.2.1 C.2.2.2.2.2.1 (C.2.2.2.2.2.2.1 _ hw) hd (kk H locs la h1 h2 h3 h4)
theorem J.iload_n (C : CX l X V own cc nL Ts d mc ms ret) {k : Fin 4} {x : Int32} (hd : decode cc pc = .ok (.iload_n k, 1)) (hl : lk ls (k : Nat) = some (.int x)) (kk : J X V Q nL n cs sl (pc + 1) ls (.int x :: st) M) : J X V Q nL n cs sl pc ls st M := fun H locs la h1 h2 h3 h4 => lv_iload_n C.2.2.1 C.2.2.2.1 hd rfl (lv_lk h4 hl) (kk H locs la h1 h2 h3 h4)
theorem J.iload (C : CX l X V own cc nL Ts d mc ms ret) {k : Nat} {x : Int32} (hd : decode cc pc = .ok (.iload k, 2)) (hl : lk ls k = some (.int x)) (kk : J X V Q nL n cs sl (pc + 2) ls (.int x :: st) M) : J X V Q nL n cs sl pc ls st M := fun H locs la h1 h2 h3 h4 => lv_iload C.2.2.1 C.2.2.2.1 hd (lv_lk h4 hl) (kk H locs la h1 h2 h3 h4)
theorem J.istore_n (C : CX l X V own cc nL Ts d mc ms ret) {k : Fin 4} {x : Int32} (hd : decode cc pc = .ok (.istore_n k, 1)) (hn : (k : Nat) < nL) (hl : ls1 (k : Nat) (.int x) ls false = ls') (kk : J X V Q nL n cs sl (pc + 1) ls' st M) : J X V Q nL n cs sl pc ls (.int x :: st) M := fun H locs la h1 h2 h3 h4 => lv_istore_n C.2.2.1 C.2.2.2.1 hd rfl h4 hn rfl (fun la h4 => by subst hl; exact kk H locs la h1 h2 h3 (ls1_ok h4))
theorem J.istore (C : CX l X V own cc nL Ts d mc ms ret) {k : Nat} {x : Int32} (hd : decode cc pc = .ok (.istore k, 2)) (hn : k < nL) (hl : ls1 k (.int x) ls false = ls') (kk : J X V Q nL n cs sl (pc + 2) ls' st M) : J X V Q nL n cs sl pc ls (.int x :: st) M := fun H locs la h1 h2 h3 h4 => lv_istore C.2.2.1 C.2.2.2.1 hd h4 hn rfl (fun la h4 => by subst hl; exact kk H locs la h1 h2 h3 (ls1_ok h4))
theorem J.lload_n (C : CX l X V own cc nL Ts d mc ms ret) {k : Fin 4} {x : Int64} (hd : decode cc pc = .ok (.lload_n k, 1)) (hl : lk ls (k : Nat) = some (.long x)) (kk : J X V Q nL n cs sl (pc + 1) ls (.long x :: st) M) : J X V Q nL n cs sl pc ls st M := fun H locs la h1 h2 h3 h4 => lv_lload_n C.2.2.1 C.2.2.2.1 hd rfl (lv_lk h4 hl) (kk H locs la h1 h2 h3 h4)
theorem J.lload (C : CX l X V own cc nL Ts d mc ms ret) {k : Nat} {x : Int64} (hd : decode cc pc = .ok (.lload k, 2)) (hl : lk ls k = some (.long x)) (kk : J X V Q nL n cs sl (pc + 2) ls (.long x :: st) M) : J X V Q nL n cs sl pc ls st M := fun H locs la h1 h2 h3 h4 => lv_lload C.2.2.1 C.2.2.2.1 hd (lv_lk h4 hl) (kk H locs la h1 h2 h3 h4)
theorem J.lstore_n (C : CX l X V own cc nL Ts d mc ms ret) {k : Fin 4} {x : Int64} (hd : decode cc pc = .ok (.lstore_n k, 1)) (hn : (k : Nat) + 1 < nL) (hl : ls2 (k : Nat) (.long x) ls false = ls') (kk : J X V Q nL n cs sl (pc + 1) ls' st M) : J X V Q nL n cs sl pc ls (.long x :: st) M := fun H locs la h1 h2 h3 h4 => lv_lstore_n C.2.2.1 C.2.2.2.1 hd rfl h4 hn rfl (fun la h4 => by subst hl; exact kk H locs la h1 h2 h3 (ls2_ok h4))
theorem J.lstore (C : CX l X V own cc nL Ts d mc ms ret) {k : Nat} {x : Int64} (hd : decode cc pc = .ok (.lstore k, 2)) (hn : k + 1 < nL) (hl : ls2 k (.long x) ls false = ls') (kk : J X V Q nL n cs sl (pc + 2) ls' st M) : J X V Q nL n cs sl pc ls (.long x :: st) M := fun H locs la h1 h2 h3 h4 => lv_lstore C.2.2.1 C.2.2.2.1 hd h4 hn rfl (fun la h4 => by subst hl; exact kk H locs la h1 h2 h3 (ls2_ok h4))
theorem J.aload_n (C : CX l X V own cc nL Ts d mc ms ret) {k : Fin 4} {x : Nat} (hd : decode cc pc = .ok (.aload_n k, 1)) (hl : lk ls (k : Nat) = some (.ref x)) (kk : J X V Q nL n cs sl (pc + 1) ls (.ref x :: st) M) : J X V Q nL n cs sl pc ls st M := fun H locs la h1 h2 h3 h4 => lv_aload_n C.2.2.1 C.2.2.2.1 hd rfl (lv_lk h4 hl) (kk H locs la h1 h2 h3 h4)
theorem J.aload (C : CX l X V own cc nL Ts d mc ms ret) {k : Nat} {x : Nat} (hd : decode cc pc = .ok (.aload k, 2)) (hl : lk ls k = some (.ref x)) (kk : J X V Q nL n cs sl (pc + 2) ls (.ref x :: st) M) : J X V Q nL n cs sl pc ls st M := fun H locs la h1 h2 h3 h4 => lv_aload C.2.2.1 C.2.2.2.1 hd (lv_lk h4 hl) (kk H locs la h1 h2 h3 h4)
theorem J.astore_n (C : CX l X V own cc nL Ts d mc ms ret) {k : Fin 4} {x : Nat} (hd : decode cc pc = .ok (.astore_n k, 1)) (hn : (k : Nat) < nL) (hl : ls1 (k : Nat) (.ref x) ls false = ls') (kk : J X V Q nL n cs sl (pc + 1) ls' st M) : J X V Q nL n cs sl pc ls (.ref x :: st) M := fun H locs la h1 h2 h3 h4 => lv_astore_n C.2.2.1 C.2.2.2.1 hd rfl h4 hn rfl (fun la h4 => by subst hl; exact kk H locs la h1 h2 h3 (ls1_ok h4))
theorem J.astore (C : CX l X V own cc nL Ts d mc ms ret) {k : Nat} {x : Nat} (hd : decode cc pc = .ok (.astore k, 2)) (hn : k < nL) (hl : ls1 k (.ref x) ls false = ls') (kk : J X V Q nL n cs sl (pc + 2) ls' st M) : J X V Q nL n cs sl pc ls (.ref x :: st) M := fun H locs la h1 h2 h3 h4 => lv_astore C.2.2.1 C.2.2.2.1 hd h4 hn rfl (fun la h4 => by subst hl; exact kk H locs la h1 h2 h3 (ls1_ok h4))
theorem lk_pos : ∀ {l : List (Nat × Value)} {i : Nat} {v : Value}, lk l i = some v → ∃ k : Nat, l[k]? = some (i, v) := fun h => List.getElem?_of_mem (lk_mem h)
theorem J.iinc (C : CX l X V own cc nL Ts d mc ms ret) {k : Nat} {z : Int} {x v : Int32} (hd : decode cc pc = .ok (.iinc k z, 3)) (hk : lk ls k = some (.int x)) (hv : x + Int32.ofInt z = v) (hn : k < nL) (hl : ls1 k (.int v) ls false = ls') (kk : J X V Q nL n cs sl (pc + 3) ls' st M) : J X V Q nL n cs sl pc ls st M := by
  obtain ⟨q, hq⟩ := lk_pos hk
  exact fun H locs la h1 h2 h3 h4 => lv_iinc C.2.2.1 C.2.2.2.1 hd h4 hq hv hn rfl (fun la h4 => by subst hl; exact kk H locs la h1 h2 h3 (ls1_ok h4))
theorem nI_inc (i : Nat) (z : Nat) : nI i + Int32.ofInt (z : Int) = nI (i + z) := by rw [← nI_add]; rfl
theorem J.iadd (C : CX l X V own cc nL Ts d mc ms ret) {x y : Int32} (hd : decode cc pc = .ok (.iadd, 1)) (kk : J X V Q nL n cs sl (pc + 1) ls (.int (x + y) :: st) M) : J X V Q nL n cs sl pc ls (.int y :: .int x :: st) M := fun H locs la h1 h2 h3 h4 => lv_iadd C.2.2.1 C.2.2.2.1 hd (kk H locs la h1 h2 h3 h4)
theorem J.isub (C : CX l X V own cc nL Ts d mc ms ret) {x y : Int32} (hd : decode cc pc = .ok (.isub, 1)) (kk : J X V Q nL n cs sl (pc + 1) ls (.int (x - y) :: st) M) : J X V Q nL n cs sl pc ls (.int y :: .int x :: st) M := fun H locs la h1 h2 h3 h4 => lv_isub C.2.2.1 C.2.2.2.1 hd (kk H locs la h1 h2 h3 h4)
theorem J.imul (C : CX l X V own cc nL Ts d mc ms ret) {x y : Int32} (hd : decode cc pc = .ok (.imul, 1)) (kk : J X V Q nL n cs sl (pc + 1) ls (.int (x * y) :: st) M) : J X V Q nL n cs sl pc ls (.int y :: .int x :: st) M := fun H locs la h1 h2 h3 h4 => lv_imul C.2.2.1 C.2.2.2.1 hd (kk H locs la h1 h2 h3 h4)
theorem J.iand (C : CX l X V own cc nL Ts d mc ms ret) {x y : Int32} (hd : decode cc pc = .ok (.iand, 1)) (kk : J X V Q nL n cs sl (pc + 1) ls (.int (x &&& y) :: st) M) : J X V Q nL n cs sl pc ls (.int y :: .int x :: st) M := fun H locs la h1 h2 h3 h4 => lv_iand C.2.2.1 C.2.2.2.1 hd (kk H locs la h1 h2 h3 h4)
theorem J.ior (C : CX l X V own cc nL Ts d mc ms ret) {x y : Int32} (hd : decode cc pc = .ok (.ior, 1)) (kk : J X V Q nL n cs sl (pc + 1) ls (.int (x ||| y) :: st) M) : J X V Q nL n cs sl pc ls (.int y :: .int x :: st) M := fun H locs la h1 h2 h3 h4 => lv_ior C.2.2.1 C.2.2.2.1 hd (kk H locs la h1 h2 h3 h4)
theorem J.ixor (C : CX l X V own cc nL Ts d mc ms ret) {x y : Int32} (hd : decode cc pc = .ok (.ixor, 1)) (kk : J X V Q nL n cs sl (pc + 1) ls (.int (x ^^^ y) :: st) M) : J X V Q nL n cs sl pc ls (.int y :: .int x :: st) M := fun H locs la h1 h2 h3 h4 => lv_ixor C.2.2.1 C.2.2.2.1 hd (kk H locs la h1 h2 h3 h4)
theorem J.ishl (C : CX l X V own cc nL Ts d mc ms ret) {x y : Int32} (hd : decode cc pc = .ok (.ishl, 1)) (kk : J X V Q nL n cs sl (pc + 1) ls (.int (x <<< (y &&& 31)) :: st) M) : J X V Q nL n cs sl pc ls (.int y :: .int x :: st) M := fun H locs la h1 h2 h3 h4 => lv_ishl C.2.2.1 C.2.2.2.1 hd (kk H locs la h1 h2 h3 h4)
theorem J.ishr (C : CX l X V own cc nL Ts d mc ms ret) {x y : Int32} (hd : decode cc pc = .ok (.ishr, 1)) (kk : J X V Q nL n cs sl (pc + 1) ls (.int (x >>> (y &&& 31)) :: st) M) : J X V Q nL n cs sl pc ls (.int y :: .int x :: st) M := fun H locs la h1 h2 h3 h4 => lv_ishr C.2.2.1 C.2.2.2.1 hd (kk H locs la h1 h2 h3 h4)
theorem J.iadd_n (C : CX l X V own cc nL Ts d mc ms ret) {a b : Nat} (hd : decode cc pc = .ok (.iadd, 1)) (kk : J X V Q nL n cs sl (pc + 1) ls (.int (nI (a + b)) :: st) M) : J X V Q nL n cs sl pc ls (.int (nI b) :: .int (nI a) :: st) M := J.iadd C hd (by rw [nI_add]; exact kk)
theorem J.isub_n (C : CX l X V own cc nL Ts d mc ms ret) {a b : Nat} (h : b ≤ a) (hd : decode cc pc = .ok (.isub, 1)) (kk : J X V Q nL n cs sl (pc + 1) ls (.int (nI (a - b)) :: st) M) : J X V Q nL n cs sl pc ls (.int (nI b) :: .int (nI a) :: st) M := J.isub C hd (by rw [pk_sub h]; exact kk)
theorem J.imul_n (C : CX l X V own cc nL Ts d mc ms ret) {a b : Nat} (hd : decode cc pc = .ok (.imul, 1)) (kk : J X V Q nL n cs sl (pc + 1) ls (.int (nI (a * b)) :: st) M) : J X V Q nL n cs sl pc ls (.int (nI b) :: .int (nI a) :: st) M := J.imul C hd (by rw [pk_mul]; exact kk)
theorem J.idiv (C : CX l X V own cc nL Ts d mc ms ret) {x y : Int32} (hne : ¬ y = 0) (hd : decode cc pc = .ok (.idiv, 1)) (kk : J X V Q nL n cs sl (pc + 1) ls (.int (x / y) :: st) M) : J X V Q nL n cs sl pc ls (.int y :: .int x :: st) M := fun H locs la h1 h2 h3 h4 => lv_idiv C.2.2.1 C.2.2.2.1 hd hne (kk H locs la h1 h2 h3 h4)
theorem J.irem (C : CX l X V own cc nL Ts d mc ms ret) {x y : Int32} (hne : ¬ y = 0) (hd : decode cc pc = .ok (.irem, 1)) (kk : J X V Q nL n cs sl (pc + 1) ls (.int (x - x / y * y) :: st) M) : J X V Q nL n cs sl pc ls (.int y :: .int x :: st) M := fun H locs la h1 h2 h3 h4 => lv_irem C.2.2.1 C.2.2.2.1 hd hne (kk H locs la h1 h2 h3 h4)
theorem J.idiv_n (C : CX l X V own cc nL Ts d mc ms ret) {a b : Nat} (ha : a < 2 ^ 31) (h0 : 0 < b) (hb : b < 2 ^ 31) (hd : decode cc pc = .ok (.idiv, 1)) (kk : J X V Q nL n cs sl (pc + 1) ls (.int (nI (a / b)) :: st) M) : J X V Q nL n cs sl pc ls (.int (nI b) :: .int (nI a) :: st) M := J.idiv C (nI_ne0 h0 hb) hd (by rw [pk_div ha h0 hb]; exact kk)
theorem J.irem_n (C : CX l X V own cc nL Ts d mc ms ret) {a b : Nat} (ha : a < 2 ^ 31) (h0 : 0 < b) (hb : b < 2 ^ 31) (hd : decode cc pc = .ok (.irem, 1)) (kk : J X V Q nL n cs sl (pc + 1) ls (.int (nI (a % b)) :: st) M) : J X V Q nL n cs sl pc ls (.int (nI b) :: .int (nI a) :: st) M := J.irem C (nI_ne0 h0 hb) hd (by rw [pk_rem ha h0 hb]; exact kk)
theorem J.ladd (C : CX l X V own cc nL Ts d mc ms ret) {x y : Int64} (hd : decode cc pc = .ok (.ladd, 1)) (kk : J X V Q nL n cs sl (pc + 1) ls (.long (x + y) :: st) M) : J X V Q nL n cs sl pc ls (.long y :: .long x :: st) M := fun H locs la h1 h2 h3 h4 => lv_ladd C.2.2.1 C.2.2.2.1 hd (kk H locs la h1 h2 h3 h4)
theorem J.lsub (C : CX l X V own cc nL Ts d mc ms ret) {x y : Int64} (hd : decode cc pc = .ok (.lsub, 1)) (kk : J X V Q nL n cs sl (pc + 1) ls (.long (x - y) :: st) M) : J X V Q nL n cs sl pc ls (.long y :: .long x :: st) M := fun H locs la h1 h2 h3 h4 => lv_lsub C.2.2.1 C.2.2.2.1 hd (kk H locs la h1 h2 h3 h4)
theorem J.land (C : CX l X V own cc nL Ts d mc ms ret) {x y : Int64} (hd : decode cc pc = .ok (.land, 1)) (kk : J X V Q nL n cs sl (pc + 1) ls (.long (x &&& y) :: st) M) : J X V Q nL n cs sl pc ls (.long y :: .long x :: st) M := fun H locs la h1 h2 h3 h4 => lv_land C.2.2.1 C.2.2.2.1 hd (kk H locs la h1 h2 h3 h4)
theorem J.lor (C : CX l X V own cc nL Ts d mc ms ret) {x y : Int64} (hd : decode cc pc = .ok (.lor, 1)) (kk : J X V Q nL n cs sl (pc + 1) ls (.long (x ||| y) :: st) M) : J X V Q nL n cs sl pc ls (.long y :: .long x :: st) M := fun H locs la h1 h2 h3 h4 => lv_lor C.2.2.1 C.2.2.2.1 hd (kk H locs la h1 h2 h3 h4)
theorem J.lxor (C : CX l X V own cc nL Ts d mc ms ret) {x y : Int64} (hd : decode cc pc = .ok (.lxor, 1)) (kk : J X V Q nL n cs sl (pc + 1) ls (.long (x ^^^ y) :: st) M) : J X V Q nL n cs sl pc ls (.long y :: .long x :: st) M := fun H locs la h1 h2 h3 h4 => lv_lxor C.2.2.1 C.2.2.2.1 hd (kk H locs la h1 h2 h3 h4)
theorem J.lneg (C : CX l X V own cc nL Ts d mc ms ret) {x : Int64} (hd : decode cc pc = .ok (.lneg, 1)) (kk : J X V Q nL n cs sl (pc + 1) ls (.long (-x) :: st) M) : J X V Q nL n cs sl pc ls (.long x :: st) M := fun H locs la h1 h2 h3 h4 => lv_lneg C.2.2.1 C.2.2.2.1 hd (kk H locs la h1 h2 h3 h4)
theorem J.lshl (C : CX l X V own cc nL Ts d mc ms ret) {x : Int64} {y : Int32} (hd : decode cc pc = .ok (.lshl, 1)) (kk : J X V Q nL n cs sl (pc + 1) ls (.long (x <<< (y.toInt64 &&& 63)) :: st) M) : J X V Q nL n cs sl pc ls (.int y :: .long x :: st) M := fun H locs la h1 h2 h3 h4 => lv_lshl C.2.2.1 C.2.2.2.1 hd rfl (kk H locs la h1 h2 h3 h4)
theorem J.lushr (C : CX l X V own cc nL Ts d mc ms ret) {x : Int64} {y : Int32} (hd : decode cc pc = .ok (.lushr, 1)) (kk : J X V Q nL n cs sl (pc + 1) ls (.long (x.toUInt64 >>> (y.toInt64.toUInt64 &&& Int64.toUInt64 63)).toInt64 :: st) M) : J X V Q nL n cs sl pc ls (.int y :: .long x :: st) M := fun H locs la h1 h2 h3 h4 => lv_lushr C.2.2.1 C.2.2.2.1 hd rfl (kk H locs la h1 h2 h3 h4)
theorem J.lcmp (C : CX l X V own cc nL Ts d mc ms ret) {x y : Int64} (hd : decode cc pc = .ok (.lcmp, 1)) (kk : J X V Q nL n cs sl (pc + 1) ls (.int (lg_cmp x y) :: st) M) : J X V Q nL n cs sl pc ls (.long y :: .long x :: st) M := fun H locs la h1 h2 h3 h4 => W.lcmp C.2.2.1 C.2.2.2.1 hd (kk H locs la h1 h2 h3 h4)
theorem J.i2l (C : CX l X V own cc nL Ts d mc ms ret) {x : Int32} (hd : decode cc pc = .ok (.i2l, 1)) (kk : J X V Q nL n cs sl (pc + 1) ls (.long (x.toInt64) :: st) M) : J X V Q nL n cs sl pc ls (.int x :: st) M := fun H locs la h1 h2 h3 h4 => lv_i2l C.2.2.1 C.2.2.2.1 hd rfl (kk H locs la h1 h2 h3 h4)
theorem J.l2i (C : CX l X V own cc nL Ts d mc ms ret) {x : Int64} (hd : decode cc pc = .ok (.l2i, 1)) (kk : J X V Q nL n cs sl (pc + 1) ls (.int (x.toInt32) :: st) M) : J X V Q nL n cs sl pc ls (.long x :: st) M := fun H locs la h1 h2 h3 h4 => lv_l2i C.2.2.1 C.2.2.2.1 hd rfl (kk H locs la h1 h2 h3 h4)
theorem J.i2b (C : CX l X V own cc nL Ts d mc ms ret) {x : Int32} (hd : decode cc pc = .ok (.i2b, 1)) (kk : J X V Q nL n cs sl (pc + 1) ls (.int (x.toInt8.toInt32) :: st) M) : J X V Q nL n cs sl pc ls (.int x :: st) M := fun H locs la h1 h2 h3 h4 => lv_i2b C.2.2.1 C.2.2.2.1 hd rfl (kk H locs la h1 h2 h3 h4)
theorem J.i2s (C : CX l X V own cc nL Ts d mc ms ret) {x : Int32} (hd : decode cc pc = .ok (.i2s, 1)) (kk : J X V Q nL n cs sl (pc + 1) ls (.int (x.toInt16.toInt32) :: st) M) : J X V Q nL n cs sl pc ls (.int x :: st) M := fun H locs la h1 h2 h3 h4 => lv_i2s C.2.2.1 C.2.2.2.1 hd rfl (kk H locs la h1 h2 h3 h4)
theorem J.i2c (C : CX l X V own cc nL Ts d mc ms ret) {x : Int32} (hd : decode cc pc = .ok (.i2c, 1)) (kk : J X V Q nL n cs sl (pc + 1) ls (.int ((x.toUInt32 % 65536).toInt32) :: st) M) : J X V Q nL n cs sl pc ls (.int x :: st) M := fun H locs la h1 h2 h3 h4 => lv_i2c C.2.2.1 C.2.2.2.1 hd rfl (kk H locs la h1 h2 h3 h4)
theorem J.dup (C : CX l X V own cc nL Ts d mc ms ret) {v : Value} (hd : decode cc pc = .ok (.dup, 1)) (hv : v.category = 1) (kk : J X V Q nL n cs sl (pc + 1) ls (v :: v :: st) M) : J X V Q nL n cs sl pc ls (v :: st) M := fun H locs la h1 h2 h3 h4 => lv_dup C.2.2.1 C.2.2.2.1 hd hv (kk H locs la h1 h2 h3 h4)
theorem J.pop (C : CX l X V own cc nL Ts d mc ms ret) {v : Value} (hd : decode cc pc = .ok (.pop, 1)) (hv : v.category = 1) (kk : J X V Q nL n cs sl (pc + 1) ls st M) : J X V Q nL n cs sl pc ls (v :: st) M := fun H locs la h1 h2 h3 h4 => lv_pop C.2.2.1 C.2.2.2.1 hd hv (kk H locs la h1 h2 h3 h4)
theorem J.dup2 (C : CX l X V own cc nL Ts d mc ms ret) {v w : Value} (hd : decode cc pc = .ok (.dup2, 1)) (hv : v.category = 1) (hw : w.category = 1) (kk : J X V Q nL n cs sl (pc + 1) ls (v :: w :: v :: w :: st) M) : J X V Q nL n cs sl pc ls (v :: w :: st) M := fun H locs la h1 h2 h3 h4 => lv_dup2_11 C.2.2.1 C.2.2.2.1 hd hv hw (kk H locs la h1 h2 h3 h4)
theorem J.if_eq (C : CX l X V own cc nL Ts d mc ms ret) {x : Int32} {off : Int} {tgt : Nat} (hd : decode cc pc = .ok (.ifCond .eq off, 3)) (ht : (pc : Int) + off = (tgt : Int)) (kt : x = 0 → J X V Q nL n cs sl tgt ls st M) (kf : ¬ (x = 0) → J X V Q nL n cs sl (pc + 3) ls st M) : J X V Q nL n cs sl pc ls (.int x :: st) M := fun H locs la h1 h2 h3 h4 => lv_if_eq C.2.2.1 C.2.2.2.1 hd ht (fun c => kt c H locs la h1 h2 h3 h4) (fun c => kf c H locs la h1 h2 h3 h4)
theorem J.icmp_eq (C : CX l X V own cc nL Ts d mc ms ret) {x y : Int32} {off : Int} {tgt : Nat} (hd : decode cc pc = .ok (.if_icmp .eq off, 3)) (ht : (pc : Int) + off = (tgt : Int)) (kt : x = y → J X V Q nL n cs sl tgt ls st M) (kf : ¬ (x = y) → J X V Q nL n cs sl (pc + 3) ls st M) : J X V Q nL n cs sl pc ls (.int y :: .int x :: st) M := fun H locs la h1 h2 h3 h4 => lv_icmp_eq C.2.2.1 C.2.2.2.1 hd ht (fun c => kt c H locs la h1 h2 h3 h4) (fun c => kf c H locs la h1 h2 h3 h4)
theorem J.icmp_eq_n (C : CX l X V own cc nL Ts d mc ms ret) {a b : Nat} (ha : a < 2 ^ 31) (hb : b < 2 ^ 31) {off : Int} {tgt : Nat} (hd : decode cc pc = .ok (.if_icmp .eq off, 3)) (ht : (pc : Int) + off = (tgt : Int)) (kt : a = b → J X V Q nL n cs sl tgt ls st M) (kf : ¬ (a = b) → J X V Q nL n cs sl (pc + 3) ls st M) : J X V Q nL n cs sl pc ls (.int (nI b) :: .int (nI a) :: st) M := J.icmp_eq C hd ht (fun c => kt ((nI_eq ha hb).mp c)) (fun c => kf (fun q => c ((nI_eq ha hb).mpr q)))
theorem J.if_ne (C : CX l X V own cc nL Ts d mc ms ret) {x : Int32} {off : Int} {tgt : Nat} (hd : decode cc pc = .ok (.ifCond .ne off, 3)) (ht : (pc : Int) + off = (tgt : Int)) (kt : ¬ x = 0 → J X V Q nL n cs sl tgt ls st M) (kf : x = 0 → J X V Q nL n cs sl (pc + 3) ls st M) : J X V Q nL n cs sl pc ls (.int x :: st) M := fun H locs la h1 h2 h3 h4 => lv_if_ne C.2.2.1 C.2.2.2.1 hd ht (fun c => kt c H locs la h1 h2 h3 h4) (fun c => kf c H locs la h1 h2 h3 h4)
theorem J.icmp_ne (C : CX l X V own cc nL Ts d mc ms ret) {x y : Int32} {off : Int} {tgt : Nat} (hd : decode cc pc = .ok (.if_icmp .ne off, 3)) (ht : (pc : Int) + off = (tgt : Int)) (kt : ¬ x = y → J X V Q nL n cs sl tgt ls st M) (kf : x = y → J X V Q nL n cs sl (pc + 3) ls st M) : J X V Q nL n cs sl pc ls (.int y :: .int x :: st) M := fun H locs la h1 h2 h3 h4 => lv_icmp_ne C.2.2.1 C.2.2.2.1 hd ht (fun c => kt c H locs la h1 h2 h3 h4) (fun c => kf c H locs la h1 h2 h3 h4)
theorem J.icmp_ne_n (C : CX l X V own cc nL Ts d mc ms ret) {a b : Nat} (ha : a < 2 ^ 31) (hb : b < 2 ^ 31) {off : Int} {tgt : Nat} (hd : decode cc pc = .ok (.if_icmp .ne off, 3)) (ht : (pc : Int) + off = (tgt : Int)) (kt : ¬ a = b → J X V Q nL n cs sl tgt ls st M) (kf : a = b → J X V Q nL n cs sl (pc + 3) ls st M) : J X V Q nL n cs sl pc ls (.int (nI b) :: .int (nI a) :: st) M := J.icmp_ne C hd ht (fun c => kt ((not_congr (nI_eq ha hb)).mp c)) (fun c => kf ((nI_eq ha hb).mp c))
theorem J.if_lt (C : CX l X V own cc nL Ts d mc ms ret) {x : Int32} {off : Int} {tgt : Nat} (hd : decode cc pc = .ok (.ifCond .lt off, 3)) (ht : (pc : Int) + off = (tgt : Int)) (kt : x < 0 → J X V Q nL n cs sl tgt ls st M) (kf : ¬ (x < 0) → J X V Q nL n cs sl (pc + 3) ls st M) : J X V Q nL n cs sl pc ls (.int x :: st) M := fun H locs la h1 h2 h3 h4 => lv_if_lt C.2.2.1 C.2.2.2.1 hd ht (fun c => kt c H locs la h1 h2 h3 h4) (fun c => kf c H locs la h1 h2 h3 h4)
theorem J.icmp_lt (C : CX l X V own cc nL Ts d mc ms ret) {x y : Int32} {off : Int} {tgt : Nat} (hd : decode cc pc = .ok (.if_icmp .lt off, 3)) (ht : (pc : Int) + off = (tgt : Int)) (kt : x < y → J X V Q nL n cs sl tgt ls st M) (kf : ¬ (x < y) → J X V Q nL n cs sl (pc + 3) ls st M) : J X V Q nL n cs sl pc ls (.int y :: .int x :: st) M := fun H locs la h1 h2 h3 h4 => lv_icmp_lt C.2.2.1 C.2.2.2.1 hd ht (fun c => kt c H locs la h1 h2 h3 h4) (fun c => kf c H locs la h1 h2 h3 h4)
theorem J.icmp_lt_n (C : CX l X V own cc nL Ts d mc ms ret) {a b : Nat} (ha : a < 2 ^ 31) (hb : b < 2 ^ 31) {off : Int} {tgt : Nat} (hd : decode cc pc = .ok (.if_icmp .lt off, 3)) (ht : (pc : Int) + off = (tgt : Int)) (kt : a < b → J X V Q nL n cs sl tgt ls st M) (kf : ¬ (a < b) → J X V Q nL n cs sl (pc + 3) ls st M) : J X V Q nL n cs sl pc ls (.int (nI b) :: .int (nI a) :: st) M := J.icmp_lt C hd ht (fun c => kt ((nI_ltI ha hb).mp c)) (fun c => kf (fun q => c ((nI_ltI ha hb).mpr q)))
theorem J.if_ge (C : CX l X V own cc nL Ts d mc ms ret) {x : Int32} {off : Int} {tgt : Nat} (hd : decode cc pc = .ok (.ifCond .ge off, 3)) (ht : (pc : Int) + off = (tgt : Int)) (kt : 0 ≤ x → J X V Q nL n cs sl tgt ls st M) (kf : ¬ (0 ≤ x) → J X V Q nL n cs sl (pc + 3) ls st M) : J X V Q nL n cs sl pc ls (.int x :: st) M := fun H locs la h1 h2 h3 h4 => lv_if_ge C.2.2.1 C.2.2.2.1 hd ht (fun c => kt c H locs la h1 h2 h3 h4) (fun c => kf c H locs la h1 h2 h3 h4)
theorem J.icmp_ge (C : CX l X V own cc nL Ts d mc ms ret) {x y : Int32} {off : Int} {tgt : Nat} (hd : decode cc pc = .ok (.if_icmp .ge off, 3)) (ht : (pc : Int) + off = (tgt : Int)) (kt : y ≤ x → J X V Q nL n cs sl tgt ls st M) (kf : ¬ (y ≤ x) → J X V Q nL n cs sl (pc + 3) ls st M) : J X V Q nL n cs sl pc ls (.int y :: .int x :: st) M := fun H locs la h1 h2 h3 h4 => lv_icmp_ge C.2.2.1 C.2.2.2.1 hd ht (fun c => kt c H locs la h1 h2 h3 h4) (fun c => kf c H locs la h1 h2 h3 h4)
theorem J.icmp_ge_n (C : CX l X V own cc nL Ts d mc ms ret) {a b : Nat} (ha : a < 2 ^ 31) (hb : b < 2 ^ 31) {off : Int} {tgt : Nat} (hd : decode cc pc = .ok (.if_icmp .ge off, 3)) (ht : (pc : Int) + off = (tgt : Int)) (kt : b ≤ a → J X V Q nL n cs sl tgt ls st M) (kf : ¬ (b ≤ a) → J X V Q nL n cs sl (pc + 3) ls st M) : J X V Q nL n cs sl pc ls (.int (nI b) :: .int (nI a) :: st) M := J.icmp_ge C hd ht (fun c => kt ((nI_leI hb ha).mp c)) (fun c => kf (fun q => c ((nI_leI hb ha).mpr q)))
theorem J.if_gt (C : CX l X V own cc nL Ts d mc ms ret) {x : Int32} {off : Int} {tgt : Nat} (hd : decode cc pc = .ok (.ifCond .gt off, 3)) (ht : (pc : Int) + off = (tgt : Int)) (kt : 0 < x → J X V Q nL n cs sl tgt ls st M) (kf : ¬ (0 < x) → J X V Q nL n cs sl (pc + 3) ls st M) : J X V Q nL n cs sl pc ls (.int x :: st) M := fun H locs la h1 h2 h3 h4 => lv_if_gt C.2.2.1 C.2.2.2.1 hd ht (fun c => kt c H locs la h1 h2 h3 h4) (fun c => kf c H locs la h1 h2 h3 h4)
theorem J.icmp_gt (C : CX l X V own cc nL Ts d mc ms ret) {x y : Int32} {off : Int} {tgt : Nat} (hd : decode cc pc = .ok (.if_icmp .gt off, 3)) (ht : (pc : Int) + off = (tgt : Int)) (kt : y < x → J X V Q nL n cs sl tgt ls st M) (kf : ¬ (y < x) → J X V Q nL n cs sl (pc + 3) ls st M) : J X V Q nL n cs sl pc ls (.int y :: .int x :: st) M := fun H locs la h1 h2 h3 h4 => lv_icmp_gt C.2.2.1 C.2.2.2.1 hd ht (fun c => kt c H locs la h1 h2 h3 h4) (fun c => kf c H locs la h1 h2 h3 h4)
theorem J.icmp_gt_n (C : CX l X V own cc nL Ts d mc ms ret) {a b : Nat} (ha : a < 2 ^ 31) (hb : b < 2 ^ 31) {off : Int} {tgt : Nat} (hd : decode cc pc = .ok (.if_icmp .gt off, 3)) (ht : (pc : Int) + off = (tgt : Int)) (kt : b < a → J X V Q nL n cs sl tgt ls st M) (kf : ¬ (b < a) → J X V Q nL n cs sl (pc + 3) ls st M) : J X V Q nL n cs sl pc ls (.int (nI b) :: .int (nI a) :: st) M := J.icmp_gt C hd ht (fun c => kt ((nI_ltI hb ha).mp c)) (fun c => kf (fun q => c ((nI_ltI hb ha).mpr q)))
theorem J.if_le (C : CX l X V own cc nL Ts d mc ms ret) {x : Int32} {off : Int} {tgt : Nat} (hd : decode cc pc = .ok (.ifCond .le off, 3)) (ht : (pc : Int) + off = (tgt : Int)) (kt : x ≤ 0 → J X V Q nL n cs sl tgt ls st M) (kf : ¬ (x ≤ 0) → J X V Q nL n cs sl (pc + 3) ls st M) : J X V Q nL n cs sl pc ls (.int x :: st) M := fun H locs la h1 h2 h3 h4 => lv_if_le C.2.2.1 C.2.2.2.1 hd ht (fun c => kt c H locs la h1 h2 h3 h4) (fun c => kf c H locs la h1 h2 h3 h4)
theorem J.icmp_le (C : CX l X V own cc nL Ts d mc ms ret) {x y : Int32} {off : Int} {tgt : Nat} (hd : decode cc pc = .ok (.if_icmp .le off, 3)) (ht : (pc : Int) + off = (tgt : Int)) (kt : x ≤ y → J X V Q nL n cs sl tgt ls st M) (kf : ¬ (x ≤ y) → J X V Q nL n cs sl (pc + 3) ls st M) : J X V Q nL n cs sl pc ls (.int y :: .int x :: st) M := fun H locs la h1 h2 h3 h4 => lv_icmp_le C.2.2.1 C.2.2.2.1 hd ht (fun c => kt c H locs la h1 h2 h3 h4) (fun c => kf c H locs la h1 h2 h3 h4)
theorem J.icmp_le_n (C : CX l X V own cc nL Ts d mc ms ret) {a b : Nat} (ha : a < 2 ^ 31) (hb : b < 2 ^ 31) {off : Int} {tgt : Nat} (hd : decode cc pc = .ok (.if_icmp .le off, 3)) (ht : (pc : Int) + off = (tgt : Int)) (kt : a ≤ b → J X V Q nL n cs sl tgt ls st M) (kf : ¬ (a ≤ b) → J X V Q nL n cs sl (pc + 3) ls st M) : J X V Q nL n cs sl pc ls (.int (nI b) :: .int (nI a) :: st) M := J.icmp_le C hd ht (fun c => kt ((nI_leI ha hb).mp c)) (fun c => kf (fun q => c ((nI_leI ha hb).mpr q)))
theorem nI_z {a : Nat} (ha : a < 2 ^ 31) : nI a = 0 ↔ a = 0 := by rw [← nI_0, nI_eq ha (by omega)]
theorem nI_zle {a : Nat} (ha : a < 2 ^ 31) : nI a ≤ 0 ↔ a = 0 := by rw [← nI_0, nI_leI ha (by omega)]; omega
theorem nI_zlt {a : Nat} (ha : a < 2 ^ 31) : 0 < nI a ↔ 0 < a := by rw [← nI_0, nI_ltI (by omega) ha]
theorem J.if_eq_n (C : CX l X V own cc nL Ts d mc ms ret) {a : Nat} (ha : a < 2 ^ 31) {off : Int} {tgt : Nat} (hd : decode cc pc = .ok (.ifCond .eq off, 3)) (ht : (pc : Int) + off = (tgt : Int)) (kt : a = 0 → J X V Q nL n cs sl tgt ls st M) (kf : ¬ (a = 0) → J X V Q nL n cs sl (pc + 3) ls st M) : J X V Q nL n cs sl pc ls (.int (nI a) :: st) M := J.if_eq C hd ht (fun c => kt ((nI_z ha).mp c)) (fun c => kf (fun q => c ((nI_z ha).mpr q)))
theorem J.if_ne_n (C : CX l X V own cc nL Ts d mc ms ret) {a : Nat} (ha : a < 2 ^ 31) {off : Int} {tgt : Nat} (hd : decode cc pc = .ok (.ifCond .ne off, 3)) (ht : (pc : Int) + off = (tgt : Int)) (kt : ¬ a = 0 → J X V Q nL n cs sl tgt ls st M) (kf : a = 0 → J X V Q nL n cs sl (pc + 3) ls st M) : J X V Q nL n cs sl pc ls (.int (nI a) :: st) M := J.if_ne C hd ht (fun c => kt ((not_congr (nI_z ha)).mp c)) (fun c => kf ((nI_z ha).mp c))
theorem J.if_gt_n (C : CX l X V own cc nL Ts d mc ms ret) {a : Nat} (ha : a < 2 ^ 31) {off : Int} {tgt : Nat} (hd : decode cc pc = .ok (.ifCond .gt off, 3)) (ht : (pc : Int) + off = (tgt : Int)) (kt : 0 < a → J X V Q nL n cs sl tgt ls st M) (kf : ¬ (0 < a) → J X V Q nL n cs sl (pc + 3) ls st M) : J X V Q nL n cs sl pc ls (.int (nI a) :: st) M := J.if_gt C hd ht (fun c => kt ((nI_zlt ha).mp c)) (fun c => kf (fun q => c ((nI_zlt ha).mpr q)))
theorem J.if_le_n (C : CX l X V own cc nL Ts d mc ms ret) {a : Nat} (ha : a < 2 ^ 31) {off : Int} {tgt : Nat} (hd : decode cc pc = .ok (.ifCond .le off, 3)) (ht : (pc : Int) + off = (tgt : Int)) (kt : a = 0 → J X V Q nL n cs sl tgt ls st M) (kf : ¬ (a = 0) → J X V Q nL n cs sl (pc + 3) ls st M) : J X V Q nL n cs sl pc ls (.int (nI a) :: st) M := J.if_le C hd ht (fun c => kt ((nI_zle ha).mp c)) (fun c => kf (fun q => c ((nI_zle ha).mpr q)))
theorem J.if_ge_n (C : CX l X V own cc nL Ts d mc ms ret) {a : Nat} (ha : a < 2 ^ 31) {off : Int} {tgt : Nat} (hd : decode cc pc = .ok (.ifCond .ge off, 3)) (ht : (pc : Int) + off = (tgt : Int)) (kt : J X V Q nL n cs sl tgt ls st M) : J X V Q nL n cs sl pc ls (.int (nI a) :: st) M := J.if_ge C hd ht (fun _ => kt) (fun c => absurd (nI_pos' ha) c)
theorem J.if_lt_n (C : CX l X V own cc nL Ts d mc ms ret) {a : Nat} (ha : a < 2 ^ 31) {off : Int} {tgt : Nat} (hd : decode cc pc = .ok (.ifCond .lt off, 3)) (ht : (pc : Int) + off = (tgt : Int)) (kf : J X V Q nL n cs sl (pc + 3) ls st M) : J X V Q nL n cs sl pc ls (.int (nI a) :: st) M := J.if_lt C hd ht (fun c => absurd c (nI_pos ha)) (fun _ => kf)
theorem J.goto (C : CX l X V own cc nL Ts d mc ms ret) {off : Int} {tgt : Nat} (hd : decode cc pc = .ok (.goto off, 3)) (ht : (pc : Int) + off = (tgt : Int)) (kk : J X V Q nL n cs sl tgt ls st M) : J X V Q nL n cs sl pc ls st M := fun H locs la h1 h2 h3 h4 => lv_goto C.2.2.1 C.2.2.2.1 hd ht (kk H locs la h1 h2 h3 h4)
theorem J.tabIn (C : CX l X V own cc nL Ts d mc ms ret) {dflt lo hi : Int} {offs : Array Int} {len : Nat} {x : Int32} {off : Int} {tgt : Nat} (hd : decode cc pc = .ok (.tableswitch dflt lo hi offs, len)) (g1 : ¬ x.toInt < lo) (g2 : ¬ hi < x.toInt) (ho : offs[(x.toInt - lo).toNat]? = some off) (ht : (pc : Int) + off = (tgt : Int)) (kk : J X V Q nL n cs sl tgt ls st M) : J X V Q nL n cs sl pc ls (.int x :: st) M := fun H locs la h1 h2 h3 h4 => lv_tableIn C.2.2.1 C.2.2.2.1 hd g1 g2 ho ht (kk H locs la h1 h2 h3 h4)
theorem J.tabOut (C : CX l X V own cc nL Ts d mc ms ret) {dflt lo hi : Int} {offs : Array Int} {len : Nat} {x : Int32} {tgt : Nat} (hd : decode cc pc = .ok (.tableswitch dflt lo hi offs, len)) (g : x.toInt < lo ∨ hi < x.toInt) (ht : (pc : Int) + dflt = (tgt : Int)) (kk : J X V Q nL n cs sl tgt ls st M) : J X V Q nL n cs sl pc ls (.int x :: st) M := fun H locs la h1 h2 h3 h4 => lv_tableOut C.2.2.1 C.2.2.2.1 hd g ht (kk H locs la h1 h2 h3 h4)
theorem J.look (C : CX l X V own cc nL Ts d mc ms ret) {dflt : Int} {ps : Array (Int × Int)} {len : Nat} {x : Int32} {off : Int} {tgt : Nat} (hd : decode cc pc = .ok (.lookupswitch dflt ps, len)) (hp : (ps.toList.zip (ps.toList.drop 1)).all (fun (a, next) => a.1 < next.1) = true) (ho : Op.lookupswitch.offset ps.toList dflt x.toInt = off) (ht : (pc : Int) + off = (tgt : Int)) (kk : J X V Q nL n cs sl tgt ls st M) : J X V Q nL n cs sl pc ls (.int x :: st) M := fun H locs la h1 h2 h3 h4 => lv_lookup C.2.2.1 C.2.2.2.1 hd hp ho ht (kk H locs la h1 h2 h3 h4)
theorem J.mmax (C : CX l X V own cc nL Ts d mc ms ret) {index : Nat} {x y : Int32} (w1 : Cond.methodLink own index Lib.Math.max.name ∈ Ts) (w2 : Cond.static Lib.Math.max.name ∈ Ts) (w3 : Cond.initialized "java/lang/Math" ∈ Ts) (w4 : Cond.code Lib.Math.max.name Lib.Math.max.code 2 (some .int) ∈ Ts) (hd1 : 1 ≤ d) (hr : (st.map fun v => v.category).sum + 13 ≤ 48) (hc : cs ≤ mc) (hs : sl ≤ ms) (hd : decode cc pc = .ok (.invokestatic index, 3)) (kk : J X V Q nL n cs sl (pc + 3) ls (.int (if x < y then y else x) :: st) M) : J X V Q nL n cs sl pc ls (.int y :: .int x :: st) M := by
  obtain ⟨e1, eR, hx, hb, hml, ho, hts, -⟩ := C
  intro H locs la h1 h2 h3 h4
  exact va_mmax hx hb (by rw [hml]; exact h4.1.symm) ho (hts _ w1) (hts _ w2) (hts _ w3) (hts _ w4) (by rw [eR]; exact hd1) (by rw [eR]; show _ ≤ 48 * d; omega) (by rw [eR]; exact hc) (by rw [eR]; exact hs) hd (kk H locs la h1 h2 h3 h4)
theorem J.mmin (C : CX l X V own cc nL Ts d mc ms ret) {index : Nat} {x y : Int32} (w1 : Cond.methodLink own index Lib.Math.min.name ∈ Ts) (w2 : Cond.static Lib.Math.min.name ∈ Ts) (w3 : Cond.initialized "java/lang/Math" ∈ Ts) (w4 : Cond.code Lib.Math.min.name Lib.Math.min.code 2 (some .int) ∈ Ts) (hd1 : 1 ≤ d) (hr : (st.map fun v => v.category).sum + 13 ≤ 48) (hc : cs ≤ mc) (hs : sl ≤ ms) (hd : decode cc pc = .ok (.invokestatic index, 3)) (kk : J X V Q nL n cs sl (pc + 3) ls (.int (if y < x then y else x) :: st) M) : J X V Q nL n cs sl pc ls (.int y :: .int x :: st) M := by
  obtain ⟨e1, eR, hx, hb, hml, ho, hts, -⟩ := C
  intro H locs la h1 h2 h3 h4
  exact va_mmin hx hb (by rw [hml]; exact h4.1.symm) ho (hts _ w1) (hts _ w2) (hts _ w3) (hts _ w4) (by rw [eR]; exact hd1) (by rw [eR]; show _ ≤ 48 * d; omega) (by rw [eR]; exact hc) (by rw [eR]; exact hs) hd (kk H locs la h1 h2 h3 h4)
theorem J.lsn (C : CX l X V own cc nL Ts d mc ms ret) (h : ∀ q ∈ ls', q ∈ ls) (kk : J X V Q nL n cs sl pc ls' st M) : J X V Q nL n cs sl pc ls st M := fun H locs la h1 h2 h3 h4 => kk H locs la h1 h2 h3 (lv_of h4 h)
theorem J.cast {pc' : Nat} {st' : List Value} {M' : Nat → va_E} (e1 : pc = pc') (e2 : ls = ls') (e3 : st = st') (e4 : M = M') (kk : J X V Q nL n cs sl pc' ls' st' M') : J X V Q nL n cs sl pc ls st M := by subst e1; subst e2; subst e3; subst e4; exact kk
end
end
section
/-! THE MEMORY: 106 cells, whose references never change; I: the ints by cell and place, L: the longs -/
def kd (k : Nat) : Nat := ([5,3,7,11,2,11,3,7,3,7,3,7,3,7,3,7,3,7,3,7,3,7,3,7,3,7,3,7,3,7,3,7,3,7,3,7,3,7,3,7,3,7,3,7,3,7,3,7,3,7,3,7,3,7,3,7,10,4,8,4,8,0,7,7,7,3,7,3,7,3,7,3,7,1,8,1,8,1,8,1,8,1,8,1,8,6,7,7,7,9,7,7,7,7,7,9,7,7,8,7,7,8,9,7,7,7] : List Nat).getD k 12
def ln (k : Nat) : Nat := ([0,0,40,4,0,25,0,40,0,40,0,40,0,40,0,40,0,40,0,40,0,40,0,40,0,40,0,40,0,40,0,40,0,40,0,40,0,40,0,40,0,40,0,40,0,40,0,40,0,40,0,40,0,40,0,40,6,0,8,0,8,0,5,8,80,0,40,0,40,0,40,0,40,0,12,0,12,0,12,0,12,0,12,0,12,0,40,40,40,40,30,30,1200,1200,1200,1200,6,6,72,80,40,12,40,8,10,256] : List Nat).getD k 0
def rid (k i : Nat) : Nat := match k with
  | 3 => 65 + 2 * i
  | 5 => 6 + 2 * i
  | _ => 73 + 2 * i
def mm (V : Vx) (I : Nat → Nat → Int32) (L : Nat → Nat → Int64) (k : Nat) : va_E := match kd k with
  | 0 => .inr (0, [.ref (ad V (k + 1)), .int (I k 1), .int (I k 2), .long (L k 3)])
  | 1 => .inr (1, [.int (I k 0), .int (I k 1), .ref (ad V (k + 1))])
  | 2 => .inr (2, [.ref (ad V (k + 1)), .int (I k 1), .int (I k 2)])
  | 3 => .inr (3, [.int (I k 0), .int (I k 1), .ref (ad V (k + 1))])
  | 4 => .inr (4, [.ref (ad V (k + 1)), .long (L k 1)])
  | 5 => .inr (5, [.ref (ad V 1), .ref (ad V 3), .ref (ad V 4), .ref (ad V 56), .ref (ad V 57), .ref (ad V 59), .ref (ad V 61), .ref (ad V 63), .ref (ad V 64), .int (I k 9), .int (I k 10)])
  | 6 => .inr (6, [.int (I k 0), .int (I k 1), .ref (ad V 86), .ref (ad V 87), .ref (ad V 88), .ref (ad V 89), .ref (ad V 90), .ref (ad V 91), .ref (ad V 92), .ref (ad V 93), .ref (ad V 94), .ref (ad V 95), .int (I k 12), .ref (ad V 96), .ref (ad V 97), .ref (ad V 98), .ref (ad V 99), .int (I k 17), .int (I k 18), .ref (ad V 100), .ref (ad V 101), .ref (ad V 102), .ref (ad V 103), .ref (ad V 104), .ref (ad V 105)])
  | 7 => .inl (V.2.1.1, ln k, .inl (I k))
  | 8 => .inl (V.2.1.2.1, ln k, .inr (.inl (L k)))
  | 9 => .inl (V.2.1.2.2.1, ln k, .inl (I k))
  | 10 => .inl (V.2.1.2.2.2.1, ln k, .inr (.inr (.inr (.inr (fun i => some (ad V (rid k i)))))))
  | _ => .inl (V.2.1.2.2.2.2, ln k, .inr (.inr (.inr (.inr (fun i => some (ad V (rid k i)))))))
def up2 (I : Nat → Nat → Int32) (k j : Nat) (x : Int32) : Nat → Nat → Int32 := va_up I k (upd (I k) j x)
def up3 (L : Nat → Nat → Int64) (k j : Nat) (x : Int64) : Nat → Nat → Int64 := va_up L k (vp_updL (L k) j x)
theorem up2_k (I : Nat → Nat → Int32) (k j : Nat) (x : Int32) : up2 I k j x k = upd (I k) j x := va_up_self _ _ _
theorem up3_k (L : Nat → Nat → Int64) (k j : Nat) (x : Int64) : up3 L k j x k = vp_updL (L k) j x := va_up_self _ _ _
theorem up2_s (I : Nat → Nat → Int32) (k j : Nat) (x : Int32) : up2 I k j x k j = x := by rw [up2_k]; exact pk_us
theorem up3_s (L : Nat → Nat → Int64) (k j : Nat) (x : Int64) : up3 L k j x k j = x := by rw [up3_k]; exact pk_uLs
theorem up2_n (I : Nat → Nat → Int32) {k k' : Nat} (j : Nat) (x : Int32) (h : k' ≠ k) : up2 I k j x k' = I k' := va_up_ne _ _ h
theorem up3_n (L : Nat → Nat → Int64) {k k' : Nat} (j : Nat) (x : Int64) (h : k' ≠ k) : up3 L k j x k' = L k' := va_up_ne _ _ h
theorem up2_m (I : Nat → Nat → Int32) (k : Nat) {j j' : Nat} (x : Int32) (h : j' ≠ j) : up2 I k j x k j' = I k j' := by rw [up2_k]; exact pk_un h
theorem up3_m (L : Nat → Nat → Int64) (k : Nat) {j j' : Nat} (x : Int64) (h : j' ≠ j) : up3 L k j x k j' = L k j' := by rw [up3_k]; exact pk_uLn h
theorem up2_v (I : Nat → Nat → Int32) (k j k' j' : Nat) (x : Int32) : up2 I k j x k' j' = if k' = k ∧ j' = j then x else I k' j' := by
  by_cases h : k' = k
  · subst h
    by_cases h2 : j' = j
    · subst h2; rw [up2_s, if_pos ⟨rfl, rfl⟩]
    · rw [up2_m _ _ _ h2, if_neg (fun q => h2 q.2)]
  · rw [up2_n _ _ _ h, if_neg (fun q => h q.1)]
theorem up3_v (L : Nat → Nat → Int64) (k j k' j' : Nat) (x : Int64) : up3 L k j x k' j' = if k' = k ∧ j' = j then x else L k' j' := by
  by_cases h : k' = k
  · subst h
    by_cases h2 : j' = j
    · subst h2; rw [up3_s, if_pos ⟨rfl, rfl⟩]
    · rw [up3_m _ _ _ h2, if_neg (fun q => h2 q.2)]
  · rw [up3_n _ _ _ h, if_neg (fun q => h q.1)]
theorem mm_ne (V : Vx) {I I' : Nat → Nat → Int32} {L L' : Nat → Nat → Int64} {q : Nat} (h1 : I q = I' q) (h2 : L q = L' q) : mm V I L q = mm V I' L' q := by
  unfold mm
  rw [h1, h2]
theorem mp_0_1 {V : Vx} {I : Nat → Nat → Int32} {L : Nat → Nat → Int64} {k : Nat} {x : Int32} (h : kd k = 0) : va_up (mm V I L) k (.inr (0, [.ref (ad V (k + 1)), .int x, .int (I k 2), .long (L k 3)])) = mm V (up2 I k 1 x) L := by
  funext q
  by_cases hq : q = k
  · subst hq
    simp [va_up, mm, h, up2, upd]
  · rw [va_up_ne _ _ hq]
    exact mm_ne V (up2_n I 1 x hq).symm rfl
theorem mp_0_2 {V : Vx} {I : Nat → Nat → Int32} {L : Nat → Nat → Int64} {k : Nat} {x : Int32} (h : kd k = 0) : va_up (mm V I L) k (.inr (0, [.ref (ad V (k + 1)), .int (I k 1), .int x, .long (L k 3)])) = mm V (up2 I k 2 x) L := by
  funext q
  by_cases hq : q = k
  · subst hq
    simp [va_up, mm, h, up2, upd]
  · rw [va_up_ne _ _ hq]
    exact mm_ne V (up2_n I 2 x hq).symm rfl
theorem mp_1_0 {V : Vx} {I : Nat → Nat → Int32} {L : Nat → Nat → Int64} {k : Nat} {x : Int32} (h : kd k = 1) : va_up (mm V I L) k (.inr (1, [.int x, .int (I k 1), .ref (ad V (k + 1))])) = mm V (up2 I k 0 x) L := by
  funext q
  by_cases hq : q = k
  · subst hq
    simp [va_up, mm, h, up2, upd]
  · rw [va_up_ne _ _ hq]
    exact mm_ne V (up2_n I 0 x hq).symm rfl
theorem mp_1_1 {V : Vx} {I : Nat → Nat → Int32} {L : Nat → Nat → Int64} {k : Nat} {x : Int32} (h : kd k = 1) : va_up (mm V I L) k (.inr (1, [.int (I k 0), .int x, .ref (ad V (k + 1))])) = mm V (up2 I k 1 x) L := by
  funext q
  by_cases hq : q = k
  · subst hq
    simp [va_up, mm, h, up2, upd]
  · rw [va_up_ne _ _ hq]
    exact mm_ne V (up2_n I 1 x hq).symm rfl
theorem mp_2_1 {V : Vx} {I : Nat → Nat → Int32} {L : Nat → Nat → Int64} {k : Nat} {x : Int32} (h : kd k = 2) : va_up (mm V I L) k (.inr (2, [.ref (ad V (k + 1)), .int x, .int (I k 2)])) = mm V (up2 I k 1 x) L := by
  funext q
  by_cases hq : q = k
  · subst hq
    simp [va_up, mm, h, up2, upd]
  · rw [va_up_ne _ _ hq]
    exact mm_ne V (up2_n I 1 x hq).symm rfl
theorem mp_2_2 {V : Vx} {I : Nat → Nat → Int32} {L : Nat → Nat → Int64} {k : Nat} {x : Int32} (h : kd k = 2) : va_up (mm V I L) k (.inr (2, [.ref (ad V (k + 1)), .int (I k 1), .int x])) = mm V (up2 I k 2 x) L := by
  funext q
  by_cases hq : q = k
  · subst hq
    simp [va_up, mm, h, up2, upd]
  · rw [va_up_ne _ _ hq]
    exact mm_ne V (up2_n I 2 x hq).symm rfl
theorem mp_3_0 {V : Vx} {I : Nat → Nat → Int32} {L : Nat → Nat → Int64} {k : Nat} {x : Int32} (h : kd k = 3) : va_up (mm V I L) k (.inr (3, [.int x, .int (I k 1), .ref (ad V (k + 1))])) = mm V (up2 I k 0 x) L := by
  funext q
  by_cases hq : q = k
  · subst hq
    simp [va_up, mm, h, up2, upd]
  · rw [va_up_ne _ _ hq]
    exact mm_ne V (up2_n I 0 x hq).symm rfl
theorem mp_3_1 {V : Vx} {I : Nat → Nat → Int32} {L : Nat → Nat → Int64} {k : Nat} {x : Int32} (h : kd k = 3) : va_up (mm V I L) k (.inr (3, [.int (I k 0), .int x, .ref (ad V (k + 1))])) = mm V (up2 I k 1 x) L := by
  funext q
  by_cases hq : q = k
  · subst hq
    simp [va_up, mm, h, up2, upd]
  · rw [va_up_ne _ _ hq]
    exact mm_ne V (up2_n I 1 x hq).symm rfl
theorem mp_5_9 {V : Vx} {I : Nat → Nat → Int32} {L : Nat → Nat → Int64} {k : Nat} {x : Int32} (h : kd k = 5) : va_up (mm V I L) k (.inr (5, [.ref (ad V 1), .ref (ad V 3), .ref (ad V 4), .ref (ad V 56), .ref (ad V 57), .ref (ad V 59), .ref (ad V 61), .ref (ad V 63), .ref (ad V 64), .int x, .int (I k 10)])) = mm V (up2 I k 9 x) L := by
  funext q
  by_cases hq : q = k
  · subst hq
    simp [va_up, mm, h, up2, upd]
  · rw [va_up_ne _ _ hq]
    exact mm_ne V (up2_n I 9 x hq).symm rfl
theorem mp_5_10 {V : Vx} {I : Nat → Nat → Int32} {L : Nat → Nat → Int64} {k : Nat} {x : Int32} (h : kd k = 5) : va_up (mm V I L) k (.inr (5, [.ref (ad V 1), .ref (ad V 3), .ref (ad V 4), .ref (ad V 56), .ref (ad V 57), .ref (ad V 59), .ref (ad V 61), .ref (ad V 63), .ref (ad V 64), .int (I k 9), .int x])) = mm V (up2 I k 10 x) L := by
  funext q
  by_cases hq : q = k
  · subst hq
    simp [va_up, mm, h, up2, upd]
  · rw [va_up_ne _ _ hq]
    exact mm_ne V (up2_n I 10 x hq).symm rfl
theorem mp_6_0 {V : Vx} {I : Nat → Nat → Int32} {L : Nat → Nat → Int64} {k : Nat} {x : Int32} (h : kd k = 6) : va_up (mm V I L) k (.inr (6, [.int x, .int (I k 1), .ref (ad V 86), .ref (ad V 87), .ref (ad V 88), .ref (ad V 89), .ref (ad V 90), .ref (ad V 91), .ref (ad V 92), .ref (ad V 93), .ref (ad V 94), .ref (ad V 95), .int (I k 12), .ref (ad V 96), .ref (ad V 97), .ref (ad V 98), .ref (ad V 99), .int (I k 17), .int (I k 18), .ref (ad V 100), .ref (ad V 101), .ref (ad V 102), .ref (ad V 103), .ref (ad V 104), .ref (ad V 105)])) = mm V (up2 I k 0 x) L := by
  funext q
  by_cases hq : q = k
  · subst hq
    simp [va_up, mm, h, up2, upd]
  · rw [va_up_ne _ _ hq]
    exact mm_ne V (up2_n I 0 x hq).symm rfl
theorem mp_6_1 {V : Vx} {I : Nat → Nat → Int32} {L : Nat → Nat → Int64} {k : Nat} {x : Int32} (h : kd k = 6) : va_up (mm V I L) k (.inr (6, [.int (I k 0), .int x, .ref (ad V 86), .ref (ad V 87), .ref (ad V 88), .ref (ad V 89), .ref (ad V 90), .ref (ad V 91), .ref (ad V 92), .ref (ad V 93), .ref (ad V 94), .ref (ad V 95), .int (I k 12), .ref (ad V 96), .ref (ad V 97), .ref (ad V 98), .ref (ad V 99), .int (I k 17), .int (I k 18), .ref (ad V 100), .ref (ad V 101), .ref (ad V 102), .ref (ad V 103), .ref (ad V 104), .ref (ad V 105)])) = mm V (up2 I k 1 x) L := by
  funext q
  by_cases hq : q = k
  · subst hq
    simp [va_up, mm, h, up2, upd]
  · rw [va_up_ne _ _ hq]
    exact mm_ne V (up2_n I 1 x hq).symm rfl
theorem mp_6_12 {V : Vx} {I : Nat → Nat → Int32} {L : Nat → Nat → Int64} {k : Nat} {x : Int32} (h : kd k = 6) : va_up (mm V I L) k (.inr (6, [.int (I k 0), .int (I k 1), .ref (ad V 86), .ref (ad V 87), .ref (ad V 88), .ref (ad V 89), .ref (ad V 90), .ref (ad V 91), .ref (ad V 92), .ref (ad V 93), .ref (ad V 94), .ref (ad V 95), .int x, .ref (ad V 96), .ref (ad V 97), .ref (ad V 98), .ref (ad V 99), .int (I k 17), .int (I k 18), .ref (ad V 100), .ref (ad V 101), .ref (ad V 102), .ref (ad V 103), .ref (ad V 104), .ref (ad V 105)])) = mm V (up2 I k 12 x) L := by
  funext q
  by_cases hq : q = k
  · subst hq
    simp [va_up, mm, h, up2, upd]
  · rw [va_up_ne _ _ hq]
    exact mm_ne V (up2_n I 12 x hq).symm rfl
theorem mp_6_17 {V : Vx} {I : Nat → Nat → Int32} {L : Nat → Nat → Int64} {k : Nat} {x : Int32} (h : kd k = 6) : va_up (mm V I L) k (.inr (6, [.int (I k 0), .int (I k 1), .ref (ad V 86), .ref (ad V 87), .ref (ad V 88), .ref (ad V 89), .ref (ad V 90), .ref (ad V 91), .ref (ad V 92), .ref (ad V 93), .ref (ad V 94), .ref (ad V 95), .int (I k 12), .ref (ad V 96), .ref (ad V 97), .ref (ad V 98), .ref (ad V 99), .int x, .int (I k 18), .ref (ad V 100), .ref (ad V 101), .ref (ad V 102), .ref (ad V 103), .ref (ad V 104), .ref (ad V 105)])) = mm V (up2 I k 17 x) L := by
  funext q
  by_cases hq : q = k
  · subst hq
    simp [va_up, mm, h, up2, upd]
  · rw [va_up_ne _ _ hq]
    exact mm_ne V (up2_n I 17 x hq).symm rfl
theorem mp_6_18 {V : Vx} {I : Nat → Nat → Int32} {L : Nat → Nat → Int64} {k : Nat} {x : Int32} (h : kd k = 6) : va_up (mm V I L) k (.inr (6, [.int (I k 0), .int (I k 1), .ref (ad V 86), .ref (ad V 87), .ref (ad V 88), .ref (ad V 89), .ref (ad V 90), .ref (ad V 91), .ref (ad V 92), .ref (ad V 93), .ref (ad V 94), .ref (ad V 95), .int (I k 12), .ref (ad V 96), .ref (ad V 97), .ref (ad V 98), .ref (ad V 99), .int (I k 17), .int x, .ref (ad V 100), .ref (ad V 101), .ref (ad V 102), .ref (ad V 103), .ref (ad V 104), .ref (ad V 105)])) = mm V (up2 I k 18 x) L := by
  funext q
  by_cases hq : q = k
  · subst hq
    simp [va_up, mm, h, up2, upd]
  · rw [va_up_ne _ _ hq]
    exact mm_ne V (up2_n I 18 x hq).symm rfl
theorem mp_0_3 {V : Vx} {I : Nat → Nat → Int32} {L : Nat → Nat → Int64} {k : Nat} {x : Int64} (h : kd k = 0) : va_up (mm V I L) k (.inr (0, [.ref (ad V (k + 1)), .int (I k 1), .int (I k 2), .long x])) = mm V I (up3 L k 3 x) := by
  funext q
  by_cases hq : q = k
  · subst hq
    simp [va_up, mm, h, up3, vp_updL]
  · rw [va_up_ne _ _ hq]
    exact mm_ne V rfl (up3_n L 3 x hq).symm
theorem mp_4_1 {V : Vx} {I : Nat → Nat → Int32} {L : Nat → Nat → Int64} {k : Nat} {x : Int64} (h : kd k = 4) : va_up (mm V I L) k (.inr (4, [.ref (ad V (k + 1)), .long x])) = mm V I (up3 L k 1 x) := by
  funext q
  by_cases hq : q = k
  · subst hq
    simp [va_up, mm, h, up3, vp_updL]
  · rw [va_up_ne _ _ hq]
    exact mm_ne V rfl (up3_n L 1 x hq).symm
theorem mp_7 {V : Vx} {I : Nat → Nat → Int32} {L : Nat → Nat → Int64} {k j : Nat} {x : Int32} (h : kd k = 7) : va_up (mm V I L) k (.inl (V.2.1.1, ln k, .inl (upd (I k) j x))) = mm V (up2 I k j x) L := by
  funext q
  by_cases hq : q = k
  · subst hq
    simp [va_up, mm, h, up2]
  · rw [va_up_ne _ _ hq]
    exact mm_ne V (up2_n I j x hq).symm rfl
theorem mp_9 {V : Vx} {I : Nat → Nat → Int32} {L : Nat → Nat → Int64} {k j : Nat} {x : Int32} (h : kd k = 9) : va_up (mm V I L) k (.inl (V.2.1.2.2.1, ln k, .inl (upd (I k) j x))) = mm V (up2 I k j x) L := by
  funext q
  by_cases hq : q = k
  · subst hq
    simp [va_up, mm, h, up2]
  · rw [va_up_ne _ _ hq]
    exact mm_ne V (up2_n I j x hq).symm rfl
theorem mp_8 {V : Vx} {I : Nat → Nat → Int32} {L : Nat → Nat → Int64} {k j : Nat} {x : Int64} (h : kd k = 8) : va_up (mm V I L) k (.inl (V.2.1.2.1, ln k, .inr (.inl (vp_updL (L k) j x)))) = mm V I (up3 L k j x) := by
  funext q
  by_cases hq : q = k
  · subst hq
    simp [va_up, mm, h, up3]
  · rw [va_up_ne _ _ hq]
    exact mm_ne V rfl (up3_n L j x hq).symm
theorem mk_7 {V : Vx} {I : Nat → Nat → Int32} {L : Nat → Nat → Int64} {k : Nat} (h : kd k = 7) : mm V I L k = .inl (V.2.1.1, ln k, .inl (I k)) := by simp [mm, h]
theorem mk_8 {V : Vx} {I : Nat → Nat → Int32} {L : Nat → Nat → Int64} {k : Nat} (h : kd k = 8) : mm V I L k = .inl (V.2.1.2.1, ln k, .inr (.inl (L k))) := by simp [mm, h]
theorem mk_9 {V : Vx} {I : Nat → Nat → Int32} {L : Nat → Nat → Int64} {k : Nat} (h : kd k = 9) : mm V I L k = .inl (V.2.1.2.2.1, ln k, .inl (I k)) := by simp [mm, h]
theorem mk_10 {V : Vx} {I : Nat → Nat → Int32} {L : Nat → Nat → Int64} {k : Nat} (h : kd k = 10) : mm V I L k = .inl (V.2.1.2.2.2.1, ln k, .inr (.inr (.inr (.inr (fun i => some (ad V (rid k i))))))) := by simp [mm, h]
theorem mk_11 {V : Vx} {I : Nat → Nat → Int32} {L : Nat → Nat → Int64} {k : Nat} (h : kd k = 11) : mm V I L k = .inl (V.2.1.2.2.2.2, ln k, .inr (.inr (.inr (.inr (fun i => some (ad V (rid k i))))))) := by simp [mm, h]
theorem mk_3 {V : Vx} {I : Nat → Nat → Int32} {L : Nat → Nat → Int64} {k : Nat} (h : kd k = 3) : mm V I L k = .inr (3, [.int (I k 0), .int (I k 1), .ref (ad V (k + 1))]) := by simp [mm, h]
theorem mk_1 {V : Vx} {I : Nat → Nat → Int32} {L : Nat → Nat → Int64} {k : Nat} (h : kd k = 1) : mm V I L k = .inr (1, [.int (I k 0), .int (I k 1), .ref (ad V (k + 1))]) := by simp [mm, h]
theorem mk_4 {V : Vx} {I : Nat → Nat → Int32} {L : Nat → Nat → Int64} {k : Nat} (h : kd k = 4) : mm V I L k = .inr (4, [.ref (ad V (k + 1)), .long (L k 1)]) := by simp [mm, h]
theorem kd_lt {k c : Nat} (h : kd k = c) (hc : c ≠ 12) : k < 106 := by
  rcases Nat.lt_or_ge k 106 with q | q
  · exact q
  · refine absurd ?_ hc
    rw [← h]
    unfold kd
    rw [List.getD_eq_getElem?_getD, List.getElem?_eq_none (by simpa using q)]
    rfl
end
section
/-! fields, arrays, contracts and calls over a memory -/
def FL (Ts : List Cond) (own : String) (index ci j : Nat) : Prop := ∃ (Cn : String) (T : u_T) (N : Nat), vwCl[ci]? = some (Cn, T, N) ∧ (∀ w ∈ u_ws Cn T N, w ∈ Ts) ∧ j < N ∧ Cond.fieldLink own index Cn (T j).2.1 (T j).2.2.1 ∈ Ts ∧ (T j).1 = Cn
def FP (Ts : List Cond) (own : String) (index ci j : Nat) (ty : FieldType) : Prop := ∃ (Cn : String) (T : u_T) (N : Nat) (ty0 : Nat → FieldType), vwCl[ci]? = some (Cn, T, N) ∧ (∀ w ∈ u_ws Cn T N, w ∈ Ts) ∧ j < N ∧ Cond.fieldLink own index Cn (T j).2.1 (T j).2.2.1 ∈ Ts ∧ (T j).1 = Cn ∧ (∀ k, k < N → parseFieldDescriptor (T k).2.2.1 = some (ty0 k)) ∧ (∀ a, a < N → ∀ b, b < N → a ≠ b → (T a).2.1 ≠ (T b).2.1) ∧ (T j).2.2.2 = false ∧ parseFieldDescriptor (T j).2.2.1 = some ty
theorem wl_put {V : Vx} {n k : Nat} {M : Nat → va_E} {e : va_E} {H H1 : Heap} (h2 : va_P V.1 vwCl (wl V n M) H) (hk : k < n) (he : va_at V.1 vwCl (ad V k, e) H1) (oq : ∀ q, q ≠ ad V k → H1[q]? = H[q]?) : va_P V.1 vwCl (wl V n (va_up M k e)) H1 := by
  rw [← wl_set]
  exact h2.set wl_D (wl_get hk) he oq
theorem S_put {V : Vx} {k j : Nat} {H0 H H1 : Heap} {locs : List Loc} (h3 : va_S (Ab V) H0 H locs) (z : H1.size = H.size) (oq : ∀ q, q ≠ ad V k → H1[q]? = H[q]?) : va_S (Ab V) H0 H1 (locs ++ [⟨ad V k, j⟩]) := h3.put z oq (Nat.le_add_right _ _)
theorem sz_put {V : Vx} {n : Nat} {H H1 : Heap} (h : sz V n H) (z : H1.size = H.size) : sz V n H1 := fun q => z.trans (h q)
theorem ln_le (k : Nat) : ln k ≤ 1200 := by
  rcases Nat.lt_or_ge k 106 with q | q
  · have h : ∀ k, k < 106 → ln k ≤ 1200 := by decide +kernel
    exact h k q
  · unfold ln
    rw [List.getD_eq_getElem?_getD, List.getElem?_eq_none (by simpa using q)]
    exact Nat.zero_le _
section
variable {l : Launch} {X : Cx} {V : Vx} {Q : State → Prop} {own : String} {cc : ByteArray} {nL n cs sl pc d mc ms : Nat} {Ts : List Cond} {ret : Option FieldType} {ls ls' : List (Nat × Value)} {st : List Value} {M : Nat → va_E}
theorem J.get (C : CX l X V own cc nL Ts d mc ms ret) {index ci j k : Nat} {fs : List Value} {v : Value} (hF : FL Ts own index ci j) (hk : k < n) (hM : M k = .inr (ci, fs)) (hv : fs[j]? = some v) (hd : decode cc pc = .ok (.getfield index, 3)) (kk : J X V Q nL n cs sl (pc + 3) ls (v :: st) M) : J X V Q nL n cs sl pc ls (.ref (ad V k) :: st) M := by
  obtain ⟨Cn, T, N, g1, g2, g3, g4, g5⟩ := hF
  obtain ⟨e1, eR, hx, hb, hml, ho, hts, hK, -⟩ := C
  intro H locs la h1 h2 h3 h4
  exact va_get hx hb hts g2 ho hK.1 h2 k (by rw [wl_get hk, hM]) g1 j g3 (hts _ g4) (fun x h => by rw [g5] at h; exact h) hv hd (kk H locs la h1 h2 h3 h4)
theorem J.put (C : CX l X V own cc nL Ts d mc ms ret) {index ci j k : Nat} {fs : List Value} {v : Value} {ty : FieldType} (hF : FP Ts own index ci j ty) (hk : k < n) (hM : M k = .inr (ci, fs)) (hl : j < fs.length) (hn : narrow ty v = v) (hfit : fits ty v = true) (hd : decode cc pc = .ok (.putfield index, 3)) (kk : J X V Q nL n cs sl (pc + 3) ls st (va_up M k (.inr (ci, fs.set j v)))) : J X V Q nL n cs sl pc ls (v :: .ref (ad V k) :: st) M := by
  obtain ⟨Cn, T, N, ty0, g1, g2, g3, g4, g5, g6, g7, g8, g9⟩ := hF
  obtain ⟨e1, eR, hx, hb, hml, ho, hts, hK, -⟩ := C
  intro H locs la h1 h2 h3 h4
  have hap := va_apart (own := own) hts g2 ty0 g6 g7 hK.1 g1
  have hw := h2 k _ (wl_get hk)
  rw [hM] at hw
  obtain ⟨r, r1, cell, q1, q2, q3, q4⟩ := hw
  have hr : r = (Cn, T, N) := Option.some.inj (r1.symm.trans g1)
  subst hr
  obtain ⟨hS, hfc, kC, hkC, hkind⟩ := hK.1.1 ci _ g1
  obtain ⟨cf, kf, fi, f, hi, hsl⟩ := hS j g3
  have hlay := hts _ (g2 _ (u_in_lay g3))
  unfold u_lay at hlay
  rw [if_neg (by rw [g8]; decide)] at hlay
  have hst := (u_facts hfc hkC (u_lays hts g2 g3) hi).1
  have h6 := u_store hfc hkC hkind hlay hi g9 hn hfit
  refine W.putK hx hb (f := f) ⟨ho, hts _ g4, ⟨_, _, _, by rw [g5] at hi; exact hi⟩, hst⟩ (by rw [q2]; exact h6) q1 q3 (by rw [hsl]; exact k2_hasslot (q4 j g3)) rfl rfl hd fun H' e1 e2 e3 => ?_
  rw [hsl] at e1 ⊢
  exact kk H' _ la (sz_put h1 e2) (wl_put h2 hk ⟨_, g1, t_OB.to (V := updV (vp_V fs) j v) ⟨_, e1, q2, q3, t_set q4 hap g3 v⟩ (fun i _ => vp_updV_set hl v i)⟩ e3) (S_put h3 e2 e3) h4
theorem J.iald (C : CX l X V own cc nL Ts d mc ms ret) {k N : Nat} {f : Nat → Int32} {i : Int32} (hk : k < n) (hM : M k = .inl (V.2.1.1, N, .inl f)) (hin : vp_in i N) (hd : decode cc pc = .ok (.iaload, 1)) (kk : J X V Q nL n cs sl (pc + 1) ls (.int (f i.toNatClampNeg) :: st) M) : J X V Q nL n cs sl pc ls (.int i :: .ref (ad V k) :: st) M := by
  obtain ⟨e1, eR, hx, hb, hml, ho, hts, hK, -⟩ := C
  intro H locs la h1 h2 h3 h4
  exact va_iald hx hb hK.1 h2 k 0 (by rw [wl_get hk, hM]) rfl hin hd (kk H locs la h1 h2 h3 h4)
theorem J.zald (C : CX l X V own cc nL Ts d mc ms ret) {k N : Nat} {f : Nat → Int32} {i : Int32} (hk : k < n) (hM : M k = .inl (V.2.1.2.2.1, N, .inl f)) (hin : vp_in i N) (hd : decode cc pc = .ok (.baload, 1)) (kk : J X V Q nL n cs sl (pc + 1) ls (.int (f i.toNatClampNeg) :: st) M) : J X V Q nL n cs sl pc ls (.int i :: .ref (ad V k) :: st) M := by
  obtain ⟨e1, eR, hx, hb, hml, ho, hts, hK, -⟩ := C
  intro H locs la h1 h2 h3 h4
  exact va_zald hx hb hK.1 h2 k 2 (by rw [wl_get hk, hM]) rfl hin hd (kk H locs la h1 h2 h3 h4)
theorem J.lald (C : CX l X V own cc nL Ts d mc ms ret) {k N : Nat} {f : Nat → Int64} {i : Int32} (hk : k < n) (hM : M k = .inl (V.2.1.2.1, N, .inr (.inl f))) (hin : vp_in i N) (hd : decode cc pc = .ok (.laload, 1)) (kk : J X V Q nL n cs sl (pc + 1) ls (.long (f i.toNatClampNeg) :: st) M) : J X V Q nL n cs sl pc ls (.int i :: .ref (ad V k) :: st) M := by
  obtain ⟨e1, eR, hx, hb, hml, ho, hts, hK, -⟩ := C
  intro H locs la h1 h2 h3 h4
  exact va_lald hx hb hK.1 h2 k 1 (by rw [wl_get hk, hM]) rfl hin hd (kk H locs la h1 h2 h3 h4)
theorem J.aald10 (C : CX l X V own cc nL Ts d mc ms ret) {k N a : Nat} {f : Nat → Option Nat} {i : Int32} (hk : k < n) (hM : M k = .inl (V.2.1.2.2.2.1, N, .inr (.inr (.inr (.inr f))))) (hin : vp_in i N) (hv : f i.toNatClampNeg = some a) (hd : decode cc pc = .ok (.aaload, 1)) (kk : J X V Q nL n cs sl (pc + 1) ls (.ref a :: st) M) : J X V Q nL n cs sl pc ls (.int i :: .ref (ad V k) :: st) M := by
  obtain ⟨e1, eR, hx, hb, hml, ho, hts, hK, -⟩ := C
  intro H locs la h1 h2 h3 h4
  exact va_aldq hx hb hK.1 h2 k 3 (by rw [wl_get hk, hM]) rfl hin hd (by rw [hv]; exact kk H locs la h1 h2 h3 h4)
theorem J.aald11 (C : CX l X V own cc nL Ts d mc ms ret) {k N a : Nat} {f : Nat → Option Nat} {i : Int32} (hk : k < n) (hM : M k = .inl (V.2.1.2.2.2.2, N, .inr (.inr (.inr (.inr f))))) (hin : vp_in i N) (hv : f i.toNatClampNeg = some a) (hd : decode cc pc = .ok (.aaload, 1)) (kk : J X V Q nL n cs sl (pc + 1) ls (.ref a :: st) M) : J X V Q nL n cs sl pc ls (.int i :: .ref (ad V k) :: st) M := by
  obtain ⟨e1, eR, hx, hb, hml, ho, hts, hK, -⟩ := C
  intro H locs la h1 h2 h3 h4
  exact va_aldq hx hb hK.1 h2 k 4 (by rw [wl_get hk, hM]) rfl hin hd (by rw [hv]; exact kk H locs la h1 h2 h3 h4)
theorem J.iast (C : CX l X V own cc nL Ts d mc ms ret) {k N : Nat} {f : Nat → Int32} {i x : Int32} (hk : k < n) (hM : M k = .inl (V.2.1.1, N, .inl f)) (hin : vp_in i N) (hd : decode cc pc = .ok (.iastore, 1)) (kk : J X V Q nL n cs sl (pc + 1) ls st (va_up M k (.inl (V.2.1.1, N, .inl (upd f i.toNatClampNeg x))))) : J X V Q nL n cs sl pc ls (.int x :: .int i :: .ref (ad V k) :: st) M := by
  obtain ⟨e1, eR, hx, hb, hml, ho, hts, hK, -⟩ := C
  intro H locs la h1 h2 h3 h4
  have hw := h2 k _ (wl_get hk)
  rw [hM] at hw
  refine W.iast hx hb hw ((hK.1.2 0 _ rfl).1 N (fun j => .int (f j))) (fun q => by cases q) (by show ¬ (i < 0 ∨ (arrV _ _ _).slots.size ≤ _); rw [arrV_size]; exact hin) rfl rfl hd fun H1 e z oq => ?_
  refine kk H1 _ la (sz_put h1 z) (wl_put h2 hk ?_ oq) (S_put h3 z oq) h4
  show H1[_]? = some (vp_cell _ _)
  rw [e, vp_cell_i, vp_cell_i, arrV_store]
  congr 2
  funext q
  by_cases hq : q = i.toNatClampNeg <;> simp [updV, upd, hq]
theorem J.zast (C : CX l X V own cc nL Ts d mc ms ret) {k N : Nat} {f : Nat → Int32} {i x : Int32} (hz : vp_nar .boolean x = x) (hk : k < n) (hM : M k = .inl (V.2.1.2.2.1, N, .inl f)) (hin : vp_in i N) (hd : decode cc pc = .ok (.bastore, 1)) (kk : J X V Q nL n cs sl (pc + 1) ls st (va_up M k (.inl (V.2.1.2.2.1, N, .inl (upd f i.toNatClampNeg x))))) : J X V Q nL n cs sl pc ls (.int x :: .int i :: .ref (ad V k) :: st) M := by
  obtain ⟨e1, eR, hx, hb, hml, ho, hts, hK, -⟩ := C
  intro H locs la h1 h2 h3 h4
  have hw := h2 k _ (wl_get hk)
  rw [hM] at hw
  refine W.zast hx hb hw ((hK.1.2 2 _ rfl).1 N (fun j => .int (f j))) (fun q => by cases q) (by show ¬ (i < 0 ∨ (arrV _ _ _).slots.size ≤ _); rw [arrV_size]; exact hin) rfl rfl hd fun H1 e z oq => ?_
  refine kk H1 _ la (sz_put h1 z) (wl_put h2 hk ?_ oq) (S_put h3 z oq) h4
  show H1[_]? = some (vp_cell _ _)
  rw [e, vp_cell_i, vp_cell_i, arrV_store]
  congr 2
  funext q
  by_cases hq : q = i.toNatClampNeg
  · subst hq
    conv => rhs; rw [← hz]
    simp [updV, upd, vp_nar]
    try rfl
  · simp [updV, upd, hq]
theorem J.last (C : CX l X V own cc nL Ts d mc ms ret) {k N : Nat} {f : Nat → Int64} {i : Int32} {x : Int64} (hk : k < n) (hM : M k = .inl (V.2.1.2.1, N, .inr (.inl f))) (hin : vp_in i N) (hd : decode cc pc = .ok (.lastore, 1)) (kk : J X V Q nL n cs sl (pc + 1) ls st (va_up M k (.inl (V.2.1.2.1, N, .inr (.inl (vp_updL f i.toNatClampNeg x)))))) : J X V Q nL n cs sl pc ls (.long x :: .int i :: .ref (ad V k) :: st) M := by
  obtain ⟨e1, eR, hx, hb, hml, ho, hts, hK, -⟩ := C
  intro H locs la h1 h2 h3 h4
  have hw := h2 k _ (wl_get hk)
  rw [hM] at hw
  refine W.last hx hb hw ((hK.1.2 1 _ rfl).1 N (fun j => .long (f j))) (fun q => by cases q) (by show ¬ (i < 0 ∨ (arrV _ _ _).slots.size ≤ _); rw [arrV_size]; exact hin) rfl rfl hd fun H1 e z oq => ?_
  refine kk H1 _ la (sz_put h1 z) (wl_put h2 hk ?_ oq) (S_put h3 z oq) h4
  show H1[_]? = some (vp_cell _ _)
  rw [e, vp_cell_l, vp_cell_l, arrV_store]
  congr 2
  funext q
  by_cases hq : q = i.toNatClampNeg <;> simp [updV, vp_updL, hq]
end
end
section
/-! contracts: from a memory, an answer and a memory -/
def RP (V : Vx) (n : Nat) (M : Nat → va_E) (U : State) : Prop := sz V n U.heap ∧ va_P V.1 vwCl (wl V n M) U.heap ∧ Kn V U U.heap ∧ V.2.2.1 ≤ U.heap.size
def QP (V : Vx) (n : Nat) (post : Option Value → (Nat → va_E) → Prop) : Array Value → State → Outcome → State → Prop := fun _ s oc t => ∃ (v : Option Value) (M : Nat → va_E), oc = .returned v ∧ post v M ∧ sz V n t.heap ∧ va_P V.1 vwCl (wl V n M) t.heap ∧ va_F (Ab V) s t
def Ok (l : Launch) (V : Vx) (y : MethodName) (ws : List Cond) (d n n' mc ms : Nat) (av : List Value) (M : Nat → va_E) (post : Option Value → (Nat → va_E) → Prop) : Prop := Met l y ws (rmd d mc ms) (va_Pc av (RP V n M)) (QP V n' post) mc ms (Ab V)
def QX (X : Cx) (V : Vx) (n mc ms : Nat) (post : Option Value → (Nat → va_E) → Prop) : State → Prop := MQ X.2.2.2.2.2.2.2.1 (QP V n post) X.2.2.2.2.2.2.1 X.2.2.2.2.1 mc ms (Ab V)
theorem RP_blind {V : Vx} {n : Nat} {M : Nat → va_E} {av : List Value} : FrameBlind (va_Pc av (RP V n M)) := by
  intro a U g mk h
  obtain ⟨h0, h1, h2, h3, h4⟩ := h
  exact ⟨h0, h1, h2, Kn.moved (u := U) (U := U.calling g mk a) (Vm.Alike.refl U.vm) h3, h4⟩
theorem Ok.of {l : Launch} {V : Vx} {y : MethodName} {ws ws' : List Cond} {d n n' mc ms maxL : Nat} {av : List Value} {M : Nat → va_E} {post : Option Value → (Nat → va_E) → Prop} {cc : ByteArray} {ret : Option FieldType}
    (hy : plainName y.cls = true) (hw : ws = Cond.code y cc maxL ret :: ws') (hlen : (lg_sl av).length ≤ maxL)
    (body : ∀ X : Cx, X.2.2.2.2.2.2.2.2.1.name = y.name → CX l X V y.cls cc maxL ws d mc ms ret → J X V (QX X V n' mc ms post) maxL n 0 0 0 (lv_args 0 av) [] M) : Ok l V y ws d n n' mc ms av M post := by
  refine Met.ofW (cc := cc) (maxL := maxL) (ret := ret) hy hw ?_
  intro p e s m args below meth c s₁ B hml hv
  obtain ⟨rfl, h1, h2, h3, h4⟩ := hv
  have hl := lv_entry av (n := maxL) hlen
  rw [lg_entry_eq]
  exact body (p, l, e, rmd d mc ms, s, m, av.toArray, below, meth, c) (name_of_methodNamed B.named B.method).1 ⟨rfl, rfl, B.exec, B.bytes, hml, findClass_of_methodNamed B.named, atoms_spec (ws := ws) B.pre, h3, h4, B.notSynchronized, B.returns⟩ s.heap [] _ h1 h2 va_S.rf hl
section
variable {l : Launch} {X : Cx} {V : Vx} {Q : State → Prop} {own : String} {cc : ByteArray} {nL n cs sl pc d mc ms : Nat} {Ts : List Cond} {ret : Option FieldType} {ls ls' : List (Nat × Value)} {st : List Value} {M : Nat → va_E} {post : Option Value → (Nat → va_E) → Prop}
theorem Q_of (C : CX l X V own cc nL Ts d mc ms ret) {v : Option Value} {H : Heap} {locs : List Loc} (hp : post v M) (h1 : sz V n H) (h2 : va_P V.1 vwCl (wl V n M) H) (h3 : va_S (Ab V) X.2.2.2.2.1.heap H locs) : ∀ t : State, t.heap = H → X.2.2.2.2.1.WarmedH t.vm → QP V n post X.2.2.2.2.2.2.1 X.2.2.2.2.1 (.returned v) t := by
  intro t ht _
  exact ⟨v, M, rfl, hp, by rw [ht]; exact h1, by rw [ht]; exact h2, h3.F ht⟩
theorem J.iret (C : CX l X V own cc nL Ts d mc ms (some .int)) {v : Int32} (hd : decode cc pc = .ok (.ireturn, 1)) (hp : post (some (.int v)) M) : J X V (QX X V n cs sl post) nL n cs sl pc ls [.int v] M :=
  fun H locs la h1 h2 h3 h4 => W.iret C.2.2.1 C.2.2.2.1 C.2.2.2.2.2.2.2.2.2.2 (Q_of C hp h1 h2 h3) h3.2.2 hd (hlocks := C.2.2.2.2.2.2.2.2.2.1)
theorem J.zret (C : CX l X V own cc nL Ts d mc ms (some .boolean)) {v : Int32} (hd : decode cc pc = .ok (.ireturn, 1)) (hz : narrow .boolean (.int v) = .int v) (hp : post (some (.int v)) M) : J X V (QX X V n cs sl post) nL n cs sl pc ls [.int v] M :=
  fun H locs la h1 h2 h3 h4 => W.zret C.2.2.1 C.2.2.2.1 C.2.2.2.2.2.2.2.2.2.2 hz (Q_of C hp h1 h2 h3) h3.2.2 hd (hlocks := C.2.2.2.2.2.2.2.2.2.1)
theorem J.lret (C : CX l X V own cc nL Ts d mc ms (some .long)) {v : Int64} (hd : decode cc pc = .ok (.lreturn, 1)) (hp : post (some (.long v)) M) : J X V (QX X V n cs sl post) nL n cs sl pc ls [.long v] M :=
  fun H locs la h1 h2 h3 h4 => W.lret C.2.2.1 C.2.2.2.1 C.2.2.2.2.2.2.2.2.2.2 (Q_of C hp h1 h2 h3) h3.2.2 hd (hlocks := C.2.2.2.2.2.2.2.2.2.1)
theorem J.vret (C : CX l X V own cc nL Ts d mc ms none) (hd : decode cc pc = .ok (.return_, 1)) (hp : post none M) : J X V (QX X V n cs sl post) nL n cs sl pc ls [] M :=
  fun H locs la h1 h2 h3 h4 => W.vret C.2.2.1 C.2.2.2.1 C.2.2.2.2.2.2.2.2.2.2 (Q_of C hp h1 h2 h3) h3.2.2 hd (hlocks := C.2.2.2.2.2.2.2.2.2.1)
theorem J_call {n' mc' ms' : Nat} {H : Heap} {locs : List Loc} {la : Array Slot} {st0 rest : List Value} {a : Array Value} (hr : va_Run X.1 X.2.1 X.2.2.1 X.2.2.2.1 X.2.2.2.2.1 X.2.2.2.2.2.1 X.2.2.2.2.2.2.1 X.2.2.2.2.2.2.2.1 X.2.2.2.2.2.2.2.2.1 X.2.2.2.2.2.2.2.2.2 H locs cs sl mc' ms' (F0 X.2.2.2.2.2.1 pc la st0) rest (QP V n' post a) (Ab V)) (h3 : va_S (Ab V) X.2.2.2.2.1.heap H locs) (h4 : lv_has la nL ls)
    (kk : ∀ v M', post v M' → J X V Q nL n' (cs + mc') (sl + ms') (pc + 3) ls (v.toList ++ rest) M') : W X.1 X.2.1 X.2.2.1 X.2.2.2.1 X.2.2.2.2.1 X.2.2.2.2.2.1 X.2.2.2.2.2.2.1 X.2.2.2.2.2.2.2.1 X.2.2.2.2.2.2.2.2.1 X.2.2.2.2.2.2.2.2.2 H locs cs sl Q (F0 X.2.2.2.2.2.1 pc la st0) := by
  intro T hT Xs
  obtain ⟨v, st₀, t, T', L, h0, X', hL, e1, e2, hq, stp⟩ := hr T hT Xs
  obtain ⟨v', M', hv, hp, hz, hP, hF1, hF2⟩ := hq
  cases hv
  rw [h0] at hF1 hF2
  obtain ⟨t2, a1, b1⟩ := kk v M' hp T'.heap (locs ++ L) la (by rw [e1]; exact hz) (by rw [e1]; exact hP)
    ⟨Nat.le_trans h3.1 (by rw [e1]; exact hF1), fun q g1 g2 => by rw [e1, hF2 q (Nat.lt_of_lt_of_le g1 h3.1) g2]; exact h3.2.1 q g1 g2, fun q hq => by
      rcases List.mem_append.mp hq with h | h
      · exact h3.2.2 q h
      · exact hL q h⟩ h4 T' rfl X'
  exact ⟨t2, stp t2 a1, b1⟩
theorem RP_at (C : CX l X V own cc nL Ts d mc ms ret) {H : Heap} {locs : List Loc} (h1 : sz V n H) (h2 : va_P V.1 vwCl (wl V n M) H) (h3 : va_S (Ab V) X.2.2.2.2.1.heap H locs) {av : List Value} : ∀ U : State, U.heap = H → X.2.2.2.2.1.WarmedH U.vm → va_Pc av (RP V n M) av.toArray U := by
  intro U hU hW
  obtain ⟨-, -, -, -, -, -, -, hK, hB, -⟩ := C
  subst hU
  exact ⟨rfl, h1, h2, Kn.moved hW.alike (hK.kept fun a g1 g2 => h3.2.1 a g1 g2), Nat.le_trans hB h3.1⟩
/-- what a program decides of a callee -/
def MF (y : MethodName) (n : Nat) : Prop := y.cls ≠ "java/lang/invoke/MethodHandle" ∧ y.cls ≠ "java/lang/invoke/VarHandle" ∧ (parseMethodDescriptor y.desc).map (fun q => q.parameters.length) = some n
theorem J.callS (C : CX l X V own cc nL Ts d mc ms ret) {y : MethodName} {ws ws' : List Cond} {bytes : ByteArray} {maxL d' n' mc' ms' index na : Nat} {ret' : Option FieldType} {As : List Value} (hok : Ok l V y ws d' n n' mc' ms' As M post) (hG : GoodIn Ts (va_wsS own index y ws)) (hw : ws = Cond.code y bytes maxL ret' :: ws') (hmf : MF y na) (hd' : d' + 1 ≤ d) (hml : maxL ≤ 29) (hn : As.length = na) {rest : List Value} (hst : st = As.reverse ++ rest) (hrm : (rest.map fun v => v.category).sum ≤ 8) (hd : decode cc pc = .ok (.invokestatic index, 3)) (hc : cs + mc' ≤ mc) (hs : sl + ms' ≤ ms)
    (kk : ∀ v M', post v M' → J X V Q nL n' (cs + mc') (sl + ms') (pc + 3) ls (v.toList ++ rest) M') : J X V Q nL n cs sl pc ls st M := by
  have C' := C
  obtain ⟨e1, eR, hx, hb, hmx, ho, hts, hK, hB, -⟩ := C
  intro H locs la h1 h2 h3 h4
  subst e1
  refine J_call (va_runS (As := As) (rest := rest) ⟨hx, hb, hmx, ho, hts⟩ hok (va_cwS na hts hG hw rfl rfl hmf ⟨by rw [eR]; exact hd', by rw [eR]; show 8 + (maxL + 11) + 48 * d' ≤ 48 * d; omega⟩) ⟨RP_blind, RP_at C' h1 h2 h3⟩ rfl hn h4.1 hst (lv_room hrm) hd ⟨by rw [eR]; exact hc, by rw [eR]; exact hs⟩) h3 h4 kk
theorem J.callV (C : CX l X V own cc nL Ts d mc ms ret) {y : MethodName} {ws ws' : List Cond} {bytes : ByteArray} {maxL d' n' mc' ms' index na k ci : Nat} {q : vw_C} {fs : List Value} {ret' : Option FieldType} {As : List Value} (hok : Ok l V y ws d' n n' mc' ms' (.ref (ad V k) :: As) M post) (hG : GoodIn Ts (wsV own index q.1 y ws)) (hw : ws = Cond.code y bytes maxL ret' :: ws') (hmf : MF y na) (hcls : y.cls = q.1) (hd' : d' + 1 ≤ d) (hml : maxL ≤ 29) (hk : k < n) (hM : M k = .inr (ci, fs)) (hcl : vwCl[ci]? = some q) (hn : As.length = na) {rest : List Value} (hst : st = As.reverse ++ .ref (ad V k) :: rest) (hrm : (rest.map fun v => v.category).sum ≤ 8) (hd : decode cc pc = .ok (.invokevirtual index, 3)) (hc : cs + mc' ≤ mc) (hs : sl + ms' ≤ ms)
    (kk : ∀ v M', post v M' → J X V Q nL n' (cs + mc') (sl + ms') (pc + 3) ls (v.toList ++ rest) M') : J X V Q nL n cs sl pc ls st M := by
  have C' := C
  obtain ⟨e1, eR, hx, hb, hmx, ho, hts, hK, hB, -⟩ := C
  intro H locs la h1 h2 h3 h4
  subst e1
  refine J_call (va_runV (As := As) (rest := rest) ⟨hx, hb, hmx, ho, hts⟩ hok (cwV na hts hG hw rfl rfl ⟨hcls, hmf⟩ ⟨by rw [eR]; exact hd', by rw [eR]; show 8 + (maxL + 11) + 48 * d' ≤ 48 * d; omega⟩) ⟨RP_blind, va_recv hK.1 h2 hcl (by rw [wl_get hk, hM]), RP_at C' h1 h2 h3⟩ rfl hn h4.1 hst (lv_room hrm) hd ⟨by rw [eR]; exact hc, by rw [eR]; exact hs⟩) h3 h4 kk
end
end
section
/-! the rules over the memory of 106 cells -/
abbrev E (X : Cx) (V : Vx) (P : Option Value → (Nat → va_E) → Prop) (nL pc : Nat) (ls : List (Nat × Value)) (st : List Value) (I : Nat → Nat → Int32) (L : Nat → Nat → Int64) : Prop := J X V (QX X V 106 0 0 P) nL 106 0 0 pc ls st (mm V I L)
def Di (l : Launch) (V : Vx) (y : MethodName) (ws : List Cond) (d : Nat) (av : List Value) (I : Nat → Nat → Int32) (L : Nat → Nat → Int64) (r : Int32) (I' : Nat → Nat → Int32) (L' : Nat → Nat → Int64) : Prop := Ok l V y ws d 106 106 0 0 av (mm V I L) (fun v M => v = some (.int r) ∧ M = mm V I' L')
def Dl (l : Launch) (V : Vx) (y : MethodName) (ws : List Cond) (d : Nat) (av : List Value) (I : Nat → Nat → Int32) (L : Nat → Nat → Int64) (r : Int64) (I' : Nat → Nat → Int32) (L' : Nat → Nat → Int64) : Prop := Ok l V y ws d 106 106 0 0 av (mm V I L) (fun v M => v = some (.long r) ∧ M = mm V I' L')
def Dv (l : Launch) (V : Vx) (y : MethodName) (ws : List Cond) (d : Nat) (av : List Value) (I : Nat → Nat → Int32) (L : Nat → Nat → Int64) (I' : Nat → Nat → Int32) (L' : Nat → Nat → Int64) : Prop := Ok l V y ws d 106 106 0 0 av (mm V I L) (fun v M => v = none ∧ M = mm V I' L')
def Gi (l : Launch) (V : Vx) (y : MethodName) (ws : List Cond) (d : Nat) (av : List Value) (I : Nat → Nat → Int32) (L : Nat → Nat → Int64) (post : Int32 → (Nat → Nat → Int32) → (Nat → Nat → Int64) → Prop) : Prop := Ok l V y ws d 106 106 0 0 av (mm V I L) (fun v M => ∃ r I' L', v = some (.int r) ∧ M = mm V I' L' ∧ post r I' L')
def Gl (l : Launch) (V : Vx) (y : MethodName) (ws : List Cond) (d : Nat) (av : List Value) (I : Nat → Nat → Int32) (L : Nat → Nat → Int64) (post : Int64 → (Nat → Nat → Int32) → (Nat → Nat → Int64) → Prop) : Prop := Ok l V y ws d 106 106 0 0 av (mm V I L) (fun v M => ∃ r I' L', v = some (.long r) ∧ M = mm V I' L' ∧ post r I' L')
def Gv (l : Launch) (V : Vx) (y : MethodName) (ws : List Cond) (d : Nat) (av : List Value) (I : Nat → Nat → Int32) (L : Nat → Nat → Int64) (post : (Nat → Nat → Int32) → (Nat → Nat → Int64) → Prop) : Prop := Ok l V y ws d 106 106 0 0 av (mm V I L) (fun v M => ∃ I' L', v = none ∧ M = mm V I' L' ∧ post I' L')
section
variable {l : Launch} {X : Cx} {V : Vx} {Q : State → Prop} {own : String} {cc : ByteArray} {nL cs sl pc d mc ms : Nat} {Ts : List Cond} {ret : Option FieldType} {ls ls' : List (Nat × Value)} {st : List Value} {I : Nat → Nat → Int32} {L : Nat → Nat → Int64} {k j : Nat}
theorem J.getI (C : CX l X V own cc nL Ts d mc ms ret) {index ci : Nat} {fs : List Value} {x y : Int32} (hF : FL Ts own index ci j) (hk : k < 106) (hM : mm V I L k = .inr (ci, fs)) (hv : fs[j]? = some (.int y)) (hx : y = x) (hd : decode cc pc = .ok (.getfield index, 3)) (kk : J X V Q nL 106 cs sl (pc + 3) ls (.int x :: st) (mm V I L)) : J X V Q nL 106 cs sl pc ls (.ref (ad V k) :: st) (mm V I L) := by
  subst hx
  exact J.get C hF hk hM hv hd kk
theorem J.getL (C : CX l X V own cc nL Ts d mc ms ret) {index ci : Nat} {fs : List Value} {x y : Int64} (hF : FL Ts own index ci j) (hk : k < 106) (hM : mm V I L k = .inr (ci, fs)) (hv : fs[j]? = some (.long y)) (hx : y = x) (hd : decode cc pc = .ok (.getfield index, 3)) (kk : J X V Q nL 106 cs sl (pc + 3) ls (.long x :: st) (mm V I L)) : J X V Q nL 106 cs sl pc ls (.ref (ad V k) :: st) (mm V I L) := by
  subst hx
  exact J.get C hF hk hM hv hd kk
theorem J.getR (C : CX l X V own cc nL Ts d mc ms ret) {index ci k' : Nat} {fs : List Value} (hF : FL Ts own index ci j) (hk : k < 106) (hM : mm V I L k = .inr (ci, fs)) (hv : fs[j]? = some (.ref (ad V k'))) (hd : decode cc pc = .ok (.getfield index, 3)) (kk : J X V Q nL 106 cs sl (pc + 3) ls (.ref (ad V k') :: st) (mm V I L)) : J X V Q nL 106 cs sl pc ls (.ref (ad V k) :: st) (mm V I L) := J.get C hF hk hM hv hd kk
theorem J.putI (C : CX l X V own cc nL Ts d mc ms ret) {index ci : Nat} {fs : List Value} {x : Int32} {I' : Nat → Nat → Int32} (hF : FP Ts own index ci j .int) (hk : k < 106) (hM : mm V I L k = .inr (ci, fs)) (hl : j < fs.length) (hs : va_up (mm V I L) k (.inr (ci, fs.set j (.int x))) = mm V I' L) (hd : decode cc pc = .ok (.putfield index, 3)) (kk : J X V Q nL 106 cs sl (pc + 3) ls st (mm V I' L)) : J X V Q nL 106 cs sl pc ls (.int x :: .ref (ad V k) :: st) (mm V I L) := J.put C hF hk hM hl rfl rfl hd (by rw [hs]; exact kk)
theorem J.putL (C : CX l X V own cc nL Ts d mc ms ret) {index ci : Nat} {fs : List Value} {x : Int64} {L' : Nat → Nat → Int64} (hF : FP Ts own index ci j .long) (hk : k < 106) (hM : mm V I L k = .inr (ci, fs)) (hl : j < fs.length) (hs : va_up (mm V I L) k (.inr (ci, fs.set j (.long x))) = mm V I L') (hd : decode cc pc = .ok (.putfield index, 3)) (kk : J X V Q nL 106 cs sl (pc + 3) ls st (mm V I L')) : J X V Q nL 106 cs sl pc ls (.long x :: .ref (ad V k) :: st) (mm V I L) := J.put C hF hk hM hl rfl rfl hd (by rw [hs]; exact kk)
theorem ix_in {x : Int32} (hx : x = nI j) (hj : j < ln k) : vp_in x (ln k) ∧ x.toNatClampNeg = j := by
  have := ln_le k
  subst hx
  exact ⟨vp_in_nI hj (by omega), nI_clamp (by omega)⟩
theorem J.ia (C : CX l X V own cc nL Ts d mc ms ret) {x v : Int32} (hk : kd k = 7) (hx : x = nI j) (hj : j < ln k) (hv : I k j = v) (hd : decode cc pc = .ok (.iaload, 1)) (kk : J X V Q nL 106 cs sl (pc + 1) ls (.int v :: st) (mm V I L)) : J X V Q nL 106 cs sl pc ls (.int x :: .ref (ad V k) :: st) (mm V I L) := by
  obtain ⟨h1, h2⟩ := ix_in hx hj
  exact J.iald C (kd_lt hk (by decide)) (mk_7 hk) h1 hd (by rw [h2, hv]; exact kk)
theorem J.za (C : CX l X V own cc nL Ts d mc ms ret) {x v : Int32} (hk : kd k = 9) (hx : x = nI j) (hj : j < ln k) (hv : I k j = v) (hd : decode cc pc = .ok (.baload, 1)) (kk : J X V Q nL 106 cs sl (pc + 1) ls (.int v :: st) (mm V I L)) : J X V Q nL 106 cs sl pc ls (.int x :: .ref (ad V k) :: st) (mm V I L) := by
  obtain ⟨h1, h2⟩ := ix_in hx hj
  exact J.zald C (kd_lt hk (by decide)) (mk_9 hk) h1 hd (by rw [h2, hv]; exact kk)
theorem J.la (C : CX l X V own cc nL Ts d mc ms ret) {x : Int32} {v : Int64} (hk : kd k = 8) (hx : x = nI j) (hj : j < ln k) (hv : L k j = v) (hd : decode cc pc = .ok (.laload, 1)) (kk : J X V Q nL 106 cs sl (pc + 1) ls (.long v :: st) (mm V I L)) : J X V Q nL 106 cs sl pc ls (.int x :: .ref (ad V k) :: st) (mm V I L) := by
  obtain ⟨h1, h2⟩ := ix_in hx hj
  exact J.lald C (kd_lt hk (by decide)) (mk_8 hk) h1 hd (by rw [h2, hv]; exact kk)
theorem J.aa (C : CX l X V own cc nL Ts d mc ms ret) {x : Int32} (hk : kd k = 10 ∨ kd k = 11) (hx : x = nI j) (hj : j < ln k) (hd : decode cc pc = .ok (.aaload, 1)) (kk : J X V Q nL 106 cs sl (pc + 1) ls (.ref (ad V (rid k j)) :: st) (mm V I L)) : J X V Q nL 106 cs sl pc ls (.int x :: .ref (ad V k) :: st) (mm V I L) := by
  obtain ⟨h1, h2⟩ := ix_in hx hj
  rcases hk with hk | hk
  · exact J.aald10 C (kd_lt hk (by decide)) (mk_10 hk) h1 (by rw [h2]) hd kk
  · exact J.aald11 C (kd_lt hk (by decide)) (mk_11 hk) h1 (by rw [h2]) hd kk
theorem J.ias (C : CX l X V own cc nL Ts d mc ms ret) {x v : Int32} (hk : kd k = 7) (hx : x = nI j) (hj : j < ln k) (hd : decode cc pc = .ok (.iastore, 1)) (kk : J X V Q nL 106 cs sl (pc + 1) ls st (mm V (up2 I k j v) L)) : J X V Q nL 106 cs sl pc ls (.int v :: .int x :: .ref (ad V k) :: st) (mm V I L) := by
  obtain ⟨h1, h2⟩ := ix_in hx hj
  exact J.iast C (kd_lt hk (by decide)) (mk_7 hk) h1 hd (by rw [h2, mp_7 hk]; exact kk)
theorem J.zas (C : CX l X V own cc nL Ts d mc ms ret) {x v : Int32} (hz : vp_nar .boolean v = v) (hk : kd k = 9) (hx : x = nI j) (hj : j < ln k) (hd : decode cc pc = .ok (.bastore, 1)) (kk : J X V Q nL 106 cs sl (pc + 1) ls st (mm V (up2 I k j v) L)) : J X V Q nL 106 cs sl pc ls (.int v :: .int x :: .ref (ad V k) :: st) (mm V I L) := by
  obtain ⟨h1, h2⟩ := ix_in hx hj
  exact J.zast C hz (kd_lt hk (by decide)) (mk_9 hk) h1 hd (by rw [h2, mp_9 hk]; exact kk)
theorem J.las (C : CX l X V own cc nL Ts d mc ms ret) {x : Int32} {v : Int64} (hk : kd k = 8) (hx : x = nI j) (hj : j < ln k) (hd : decode cc pc = .ok (.lastore, 1)) (kk : J X V Q nL 106 cs sl (pc + 1) ls st (mm V I (up3 L k j v))) : J X V Q nL 106 cs sl pc ls (.long v :: .int x :: .ref (ad V k) :: st) (mm V I L) := by
  obtain ⟨h1, h2⟩ := ix_in hx hj
  exact J.last C (kd_lt hk (by decide)) (mk_8 hk) h1 hd (by rw [h2, mp_8 hk]; exact kk)
theorem nm_b {b : Bool} : vp_nar .boolean (if b = true then 1 else 0) = (if b = true then 1 else 0) ∧ narrow .boolean (.int (if b = true then 1 else 0)) = .int (if b = true then 1 else 0) := by cases b <;> decide
-- static arrays
theorem J.ka (C : CX l X V own cc nL Ts d mc ms ret) {index : Nat} (hw : Cond.fieldLink own index "LaneNets" "KIND_ABOVE" "[I" ∈ Ts) (hd : decode cc pc = .ok (.getstatic index, 3)) (kk : J X V Q nL 106 cs sl (pc + 3) ls (.ref V.2.2.2.1 :: st) (mm V I L)) : J X V Q nL 106 cs sl pc ls st (mm V I L) := by
  obtain ⟨e1, eR, hx, hb, hml, ho, hts, hK, -⟩ := C
  intro H locs la h1 h2 h3 h4
  exact va_gets hx hb hK.2.1 h3 ho (hts _ hw) (fun _ h => h) hd (kk H locs la h1 h2 h3 h4)
theorem J.fc (C : CX l X V own cc nL Ts d mc ms ret) {index : Nat} (hw : Cond.fieldLink own index "LaneNets$Rows" "FIRST_COLUMNS" "[J" ∈ Ts) (hd : decode cc pc = .ok (.getstatic index, 3)) (kk : J X V Q nL 106 cs sl (pc + 3) ls (.ref V.2.2.2.2.1 :: st) (mm V I L)) : J X V Q nL 106 cs sl pc ls st (mm V I L) := by
  obtain ⟨e1, eR, hx, hb, hml, ho, hts, hK, -⟩ := C
  intro H locs la h1 h2 h3 h4
  exact va_gets hx hb hK.2.2.2.1 h3 ho (hts _ hw) (fun _ h => h) hd (kk H locs la h1 h2 h3 h4)
theorem J.kal (C : CX l X V own cc nL Ts d mc ms ret) {x v : Int32} (hx0 : x = nI j) (hj : j < 5) (hv : kaF j = .int v) (hd : decode cc pc = .ok (.iaload, 1)) (kk : J X V Q nL 106 cs sl (pc + 1) ls (.int v :: st) (mm V I L)) : J X V Q nL 106 cs sl pc ls (.int x :: .ref V.2.2.2.1 :: st) (mm V I L) := by
  obtain ⟨e1, eR, hx, hb, hml, ho, hts, hK, -⟩ := C
  intro H locs la h1 h2 h3 h4
  subst hx0
  obtain ⟨cell, g1, g2, g3, g4, g5, g6, g7⟩ := hK.2.2.1.kept (fun a g1 g2 => h3.2.1 a g1 g2)
  have hc : (nI j).toNatClampNeg = j := nI_clamp (by omega)
  exact W.iald (v := .int v) hx hb g1 g2 g3 (fun q => by rcases q with q | q; exact nI_pos (by omega) q; rw [hc] at q; omega) (by rw [hc, g6 j hj, hv]) rfl rfl hd (kk H locs la h1 h2 h3 h4)
theorem J.fcl (C : CX l X V own cc nL Ts d mc ms ret) {x : Int32} {v : Int64} (hx0 : x = nI j) (hj : j < 6) (hv : fcF j = .long v) (hd : decode cc pc = .ok (.laload, 1)) (kk : J X V Q nL 106 cs sl (pc + 1) ls (.long v :: st) (mm V I L)) : J X V Q nL 106 cs sl pc ls (.int x :: .ref V.2.2.2.2.1 :: st) (mm V I L) := by
  obtain ⟨e1, eR, hx, hb, hml, ho, hts, hK, -⟩ := C
  intro H locs la h1 h2 h3 h4
  subst hx0
  obtain ⟨cell, g1, g2, g3, g4, g5, g6, g7⟩ := hK.2.2.2.2.kept (fun a g1 g2 => h3.2.1 a g1 g2)
  have hc : (nI j).toNatClampNeg = j := nI_clamp (by omega)
  exact W.lald (v := .long v) hx hb g1 g2 g3 (fun q => by rcases q with q | q; exact nI_pos (by omega) q; rw [hc] at q; omega) (by rw [hc, g6 j hj, hv]) rfl rfl hd (kk H locs la h1 h2 h3 h4)
-- System.arraycopy of ints and of longs
theorem J.acpI (C : CX l X V own cc nL Ts d mc ms ret) (hz : V.2.2.2.2.2 = false) {index k0 k1 a b c : Nat} {x y z : Int32} (w1 : Cond.methodLink own index arraycopyName ∈ Ts) (w2 : Cond.native arraycopyName ∈ Ts) (w3 : Cond.static arraycopyName ∈ Ts) (w4 : Cond.initialized "java/lang/System" ∈ Ts) (hk0 : kd k0 = 7) (hk1 : kd k1 = 7) (hx0 : x = nI a) (hy0 : y = nI b) (hz0 : z = nI c) (ha : a + c ≤ ln k0) (hb1 : b + c ≤ ln k1) (hd1 : 1 ≤ d) (hr : (st.map fun v => v.category).sum ≤ 8) (hd : decode cc pc = .ok (.invokestatic index, 3))
    (kk : J X V Q nL 106 cs sl (pc + 3) ls st (mm V (va_up I k1 (va_cpy (I k0) (I k1) a b c)) L)) : J X V Q nL 106 cs sl pc ls (.int z :: .int y :: .ref (ad V k1) :: .int x :: .ref (ad V k0) :: st) (mm V I L) := by
  obtain ⟨e1, eR, hx, hb, hml, ho, hts, hK, -⟩ := C
  intro H locs la h1 h2 h3 h4
  subst hx0; subst hy0; subst hz0
  have l0 := ln_le k0
  have l1 := ln_le k1
  have hnw : nativeFrameWords "java/lang/System" "arraycopy" 5 + 11 ≤ 40 := by decide
  have ca : (nI a).toNatClampNeg = a := nI_clamp (by omega)
  have cb : (nI b).toNatClampNeg = b := nI_clamp (by omega)
  have cc' : (nI c).toNatClampNeg = c := nI_clamp (by omega)
  refine va_copyi hx hb (by rw [hml]; exact h4.1.symm) ho (hts _ w1) (hts _ w2) (hts _ w3) (hts _ w4) hK.1 h2 wl_D h3 k0 k1 0 0 (ty := .int) (by rw [wl_get (kd_lt hk0 (by decide)), mk_7 hk0]) (by rw [wl_get (kd_lt hk1 (by decide)), mk_7 hk1]) rfl rfl rfl (nI_pos (by omega)) (nI_pos (by omega)) (nI_pos (by omega)) (by rw [ca, cc']; exact ha) (by rw [cb, cc']; exact hb1) (fun _ _ => rfl) (by rw [eR]; exact hd1) (by rw [eR]; show _ ≤ 48 * d; omega) hd (fun H1 locs1 p1 _ s1 => ?_)
  rw [wl_set, ca, cb, cc'] at p1
  refine kk H1 locs1 la (fun q => by rw [hz] at q; cases q) ?_ s1 h4
  have e : va_up (mm V I L) k1 (.inl (V.2.1.1, ln k1, .inl (va_cpy (I k0) (I k1) a b c))) = mm V (va_up I k1 (va_cpy (I k0) (I k1) a b c)) L := by
    funext q
    by_cases hq : q = k1
    · subst hq
      simp [va_up, mm, hk1]
    · rw [va_up_ne _ _ hq]
      exact mm_ne V (va_up_ne _ _ hq).symm rfl
  rw [← e]
  exact p1
theorem J.acpL (C : CX l X V own cc nL Ts d mc ms ret) (hz : V.2.2.2.2.2 = false) {index k0 k1 a b c : Nat} {x y z : Int32} (w1 : Cond.methodLink own index arraycopyName ∈ Ts) (w2 : Cond.native arraycopyName ∈ Ts) (w3 : Cond.static arraycopyName ∈ Ts) (w4 : Cond.initialized "java/lang/System" ∈ Ts) (hk0 : kd k0 = 8) (hk1 : kd k1 = 8) (hx0 : x = nI a) (hy0 : y = nI b) (hz0 : z = nI c) (ha : a + c ≤ ln k0) (hb1 : b + c ≤ ln k1) (hd1 : 1 ≤ d) (hr : (st.map fun v => v.category).sum ≤ 8) (hd : decode cc pc = .ok (.invokestatic index, 3))
    (kk : J X V Q nL 106 cs sl (pc + 3) ls st (mm V I (va_up L k1 (va_cpy (L k0) (L k1) a b c)))) : J X V Q nL 106 cs sl pc ls (.int z :: .int y :: .ref (ad V k1) :: .int x :: .ref (ad V k0) :: st) (mm V I L) := by
  obtain ⟨e1, eR, hx, hb, hml, ho, hts, hK, -⟩ := C
  intro H locs la h1 h2 h3 h4
  subst hx0; subst hy0; subst hz0
  have l0 := ln_le k0
  have l1 := ln_le k1
  have hnw : nativeFrameWords "java/lang/System" "arraycopy" 5 + 11 ≤ 40 := by decide
  have ca : (nI a).toNatClampNeg = a := nI_clamp (by omega)
  have cb : (nI b).toNatClampNeg = b := nI_clamp (by omega)
  have cc' : (nI c).toNatClampNeg = c := nI_clamp (by omega)
  refine va_copyl hx hb (by rw [hml]; exact h4.1.symm) ho (hts _ w1) (hts _ w2) (hts _ w3) (hts _ w4) hK.1 h2 wl_D h3 k0 k1 1 1 (ty := .long) (by rw [wl_get (kd_lt hk0 (by decide)), mk_8 hk0]) (by rw [wl_get (kd_lt hk1 (by decide)), mk_8 hk1]) rfl rfl rfl (nI_pos (by omega)) (nI_pos (by omega)) (nI_pos (by omega)) (by rw [ca, cc']; exact ha) (by rw [cb, cc']; exact hb1) (fun _ _ => rfl) (by rw [eR]; exact hd1) (by rw [eR]; show _ ≤ 48 * d; omega) hd (fun H1 locs1 p1 _ s1 => ?_)
  rw [wl_set, ca, cb, cc'] at p1
  refine kk H1 locs1 la (fun q => by rw [hz] at q; cases q) ?_ s1 h4
  have e : va_up (mm V I L) k1 (.inl (V.2.1.2.1, ln k1, .inr (.inl (va_cpy (L k0) (L k1) a b c)))) = mm V I (va_up L k1 (va_cpy (L k0) (L k1) a b c)) := by
    funext q
    by_cases hq : q = k1
    · subst hq
      simp [va_up, mm, hk1]
    · rw [va_up_ne _ _ hq]
      exact mm_ne V rfl (va_up_ne _ _ hq).symm
  rw [← e]
  exact p1
end
section
variable {l : Launch} {X : Cx} {V : Vx} {Q : State → Prop} {own : String} {cc : ByteArray} {nL cs sl pc d mc ms : Nat} {Ts : List Cond} {ret : Option FieldType} {ls ls' : List (Nat × Value)} {st : List Value} {I I' : Nat → Nat → Int32} {L L' : Nat → Nat → Int64} {y : MethodName} {ws ws' : List Cond} {bytes : ByteArray} {maxL d' index na k ci : Nat} {q : vw_C} {fs : List Value} {ret' : Option FieldType} {As rest : List Value}
theorem J.cSDi (C : CX l X V own cc nL Ts d mc ms ret) {r : Int32} (hok : Di l V y ws d' As I L r I' L') (hG : GoodIn Ts (va_wsS own index y ws)) (hw : ws = Cond.code y bytes maxL ret' :: ws') (hmf : MF y na) (hd' : d' + 1 ≤ d) (hml : maxL ≤ 29) (hn : As.length = na) (hst : st = As.reverse ++ rest) (hrm : (rest.map fun v => v.category).sum ≤ 8) (hd : decode cc pc = .ok (.invokestatic index, 3)) (hc : cs ≤ mc) (hs : sl ≤ ms) (kk : J X V Q nL 106 cs sl (pc + 3) ls (.int r :: rest) (mm V I' L')) : J X V Q nL 106 cs sl pc ls st (mm V I L) := J.callS C hok hG hw hmf hd' hml hn hst hrm hd hc hs (fun v M' h => by obtain ⟨rfl, rfl⟩ := h; exact kk)
theorem J.cSGi (C : CX l X V own cc nL Ts d mc ms ret) {post : Int32 → (Nat → Nat → Int32) → (Nat → Nat → Int64) → Prop} (hok : Gi l V y ws d' As I L post) (hG : GoodIn Ts (va_wsS own index y ws)) (hw : ws = Cond.code y bytes maxL ret' :: ws') (hmf : MF y na) (hd' : d' + 1 ≤ d) (hml : maxL ≤ 29) (hn : As.length = na) (hst : st = As.reverse ++ rest) (hrm : (rest.map fun v => v.category).sum ≤ 8) (hd : decode cc pc = .ok (.invokestatic index, 3)) (hc : cs ≤ mc) (hs : sl ≤ ms) (kk : ∀ (r : Int32) I' L', post r I' L' → J X V Q nL 106 cs sl (pc + 3) ls (.int r :: rest) (mm V I' L')) : J X V Q nL 106 cs sl pc ls st (mm V I L) := J.callS C hok hG hw hmf hd' hml hn hst hrm hd hc hs (fun v M' h => by obtain ⟨r, I2, L2, rfl, rfl, h⟩ := h; exact kk r I2 L2 h)
theorem J.cSDl (C : CX l X V own cc nL Ts d mc ms ret) {r : Int64} (hok : Dl l V y ws d' As I L r I' L') (hG : GoodIn Ts (va_wsS own index y ws)) (hw : ws = Cond.code y bytes maxL ret' :: ws') (hmf : MF y na) (hd' : d' + 1 ≤ d) (hml : maxL ≤ 29) (hn : As.length = na) (hst : st = As.reverse ++ rest) (hrm : (rest.map fun v => v.category).sum ≤ 8) (hd : decode cc pc = .ok (.invokestatic index, 3)) (hc : cs ≤ mc) (hs : sl ≤ ms) (kk : J X V Q nL 106 cs sl (pc + 3) ls (.long r :: rest) (mm V I' L')) : J X V Q nL 106 cs sl pc ls st (mm V I L) := J.callS C hok hG hw hmf hd' hml hn hst hrm hd hc hs (fun v M' h => by obtain ⟨rfl, rfl⟩ := h; exact kk)
theorem J.cSGl (C : CX l X V own cc nL Ts d mc ms ret) {post : Int64 → (Nat → Nat → Int32) → (Nat → Nat → Int64) → Prop} (hok : Gl l V y ws d' As I L post) (hG : GoodIn Ts (va_wsS own index y ws)) (hw : ws = Cond.code y bytes maxL ret' :: ws') (hmf : MF y na) (hd' : d' + 1 ≤ d) (hml : maxL ≤ 29) (hn : As.length = na) (hst : st = As.reverse ++ rest) (hrm : (rest.map fun v => v.category).sum ≤ 8) (hd : decode cc pc = .ok (.invokestatic index, 3)) (hc : cs ≤ mc) (hs : sl ≤ ms) (kk : ∀ (r : Int64) I' L', post r I' L' → J X V Q nL 106 cs sl (pc + 3) ls (.long r :: rest) (mm V I' L')) : J X V Q nL 106 cs sl pc ls st (mm V I L) := J.callS C hok hG hw hmf hd' hml hn hst hrm hd hc hs (fun v M' h => by obtain ⟨r, I2, L2, rfl, rfl, h⟩ := h; exact kk r I2 L2 h)
theorem J.cSDv (C : CX l X V own cc nL Ts d mc ms ret) (hok : Dv l V y ws d' As I L I' L') (hG : GoodIn Ts (va_wsS own index y ws)) (hw : ws = Cond.code y bytes maxL ret' :: ws') (hmf : MF y na) (hd' : d' + 1 ≤ d) (hml : maxL ≤ 29) (hn : As.length = na) (hst : st = As.reverse ++ rest) (hrm : (rest.map fun v => v.category).sum ≤ 8) (hd : decode cc pc = .ok (.invokestatic index, 3)) (hc : cs ≤ mc) (hs : sl ≤ ms) (kk : J X V Q nL 106 cs sl (pc + 3) ls rest (mm V I' L')) : J X V Q nL 106 cs sl pc ls st (mm V I L) := J.callS C hok hG hw hmf hd' hml hn hst hrm hd hc hs (fun v M' h => by obtain ⟨rfl, rfl⟩ := h; exact kk)
theorem J.cSGv (C : CX l X V own cc nL Ts d mc ms ret) {post : (Nat → Nat → Int32) → (Nat → Nat → Int64) → Prop} (hok : Gv l V y ws d' As I L post) (hG : GoodIn Ts (va_wsS own index y ws)) (hw : ws = Cond.code y bytes maxL ret' :: ws') (hmf : MF y na) (hd' : d' + 1 ≤ d) (hml : maxL ≤ 29) (hn : As.length = na) (hst : st = As.reverse ++ rest) (hrm : (rest.map fun v => v.category).sum ≤ 8) (hd : decode cc pc = .ok (.invokestatic index, 3)) (hc : cs ≤ mc) (hs : sl ≤ ms) (kk : ∀ I' L', post I' L' → J X V Q nL 106 cs sl (pc + 3) ls rest (mm V I' L')) : J X V Q nL 106 cs sl pc ls st (mm V I L) := J.callS C hok hG hw hmf hd' hml hn hst hrm hd hc hs (fun v M' h => by obtain ⟨I2, L2, rfl, rfl, h⟩ := h; exact kk I2 L2 h)
theorem J.cVDi (C : CX l X V own cc nL Ts d mc ms ret) {r : Int32} (hok : Di l V y ws d' (.ref (ad V k) :: As) I L r I' L') (hG : GoodIn Ts (wsV own index q.1 y ws)) (hw : ws = Cond.code y bytes maxL ret' :: ws') (hmf : MF y na) (hcls : y.cls = q.1) (hd' : d' + 1 ≤ d) (hml : maxL ≤ 29) (hk : k < 106) (hM : mm V I L k = .inr (ci, fs)) (hcl : vwCl[ci]? = some q) (hn : As.length = na) (hst : st = As.reverse ++ .ref (ad V k) :: rest) (hrm : (rest.map fun v => v.category).sum ≤ 8) (hd : decode cc pc = .ok (.invokevirtual index, 3)) (hc : cs ≤ mc) (hs : sl ≤ ms) (kk : J X V Q nL 106 cs sl (pc + 3) ls (.int r :: rest) (mm V I' L')) : J X V Q nL 106 cs sl pc ls st (mm V I L) := J.callV C hok hG hw hmf hcls hd' hml hk hM hcl hn hst hrm hd hc hs (fun v M' h => by obtain ⟨rfl, rfl⟩ := h; exact kk)
theorem J.cVGi (C : CX l X V own cc nL Ts d mc ms ret) {post : Int32 → (Nat → Nat → Int32) → (Nat → Nat → Int64) → Prop} (hok : Gi l V y ws d' (.ref (ad V k) :: As) I L post) (hG : GoodIn Ts (wsV own index q.1 y ws)) (hw : ws = Cond.code y bytes maxL ret' :: ws') (hmf : MF y na) (hcls : y.cls = q.1) (hd' : d' + 1 ≤ d) (hml : maxL ≤ 29) (hk : k < 106) (hM : mm V I L k = .inr (ci, fs)) (hcl : vwCl[ci]? = some q) (hn : As.length = na) (hst : st = As.reverse ++ .ref (ad V k) :: rest) (hrm : (rest.map fun v => v.category).sum ≤ 8) (hd : decode cc pc = .ok (.invokevirtual index, 3)) (hc : cs ≤ mc) (hs : sl ≤ ms) (kk : ∀ (r : Int32) I' L', post r I' L' → J X V Q nL 106 cs sl (pc + 3) ls (.int r :: rest) (mm V I' L')) : J X V Q nL 106 cs sl pc ls st (mm V I L) := J.callV C hok hG hw hmf hcls hd' hml hk hM hcl hn hst hrm hd hc hs (fun v M' h => by obtain ⟨r, I2, L2, rfl, rfl, h⟩ := h; exact kk r I2 L2 h)
theorem J.cVDl (C : CX l X V own cc nL Ts d mc ms ret) {r : Int64} (hok : Dl l V y ws d' (.ref (ad V k) :: As) I L r I' L') (hG : GoodIn Ts (wsV own index q.1 y ws)) (hw : ws = Cond.code y bytes maxL ret' :: ws') (hmf : MF y na) (hcls : y.cls = q.1) (hd' : d' + 1 ≤ d) (hml : maxL ≤ 29) (hk : k < 106) (hM : mm V I L k = .inr (ci, fs)) (hcl : vwCl[ci]? = some q) (hn : As.length = na) (hst : st = As.reverse ++ .ref (ad V k) :: rest) (hrm : (rest.map fun v => v.category).sum ≤ 8) (hd : decode cc pc = .ok (.invokevirtual index, 3)) (hc : cs ≤ mc) (hs : sl ≤ ms) (kk : J X V Q nL 106 cs sl (pc + 3) ls (.long r :: rest) (mm V I' L')) : J X V Q nL 106 cs sl pc ls st (mm V I L) := J.callV C hok hG hw hmf hcls hd' hml hk hM hcl hn hst hrm hd hc hs (fun v M' h => by obtain ⟨rfl, rfl⟩ := h; exact kk)
theorem J.cVGl (C : CX l X V own cc nL Ts d mc ms ret) {post : Int64 → (Nat → Nat → Int32) → (Nat → Nat → Int64) → Prop} (hok : Gl l V y ws d' (.ref (ad V k) :: As) I L post) (hG : GoodIn Ts (wsV own index q.1 y ws)) (hw : ws = Cond.code y bytes maxL ret' :: ws') (hmf : MF y na) (hcls : y.cls = q.1) (hd' : d' + 1 ≤ d) (hml : maxL ≤ 29) (hk : k < 106) (hM : mm V I L k = .inr (ci, fs)) (hcl : vwCl[ci]? = some q) (hn : As.length = na) (hst : st = As.reverse ++ .ref (ad V k) :: rest) (hrm : (rest.map fun v => v.category).sum ≤ 8) (hd : decode cc pc = .ok (.invokevirtual index, 3)) (hc : cs ≤ mc) (hs : sl ≤ ms) (kk : ∀ (r : Int64) I' L', post r I' L' → J X V Q nL 106 cs sl (pc + 3) ls (.long r :: rest) (mm V I' L')) : J X V Q nL 106 cs sl pc ls st (mm V I L) := J.callV C hok hG hw hmf hcls hd' hml hk hM hcl hn hst hrm hd hc hs (fun v M' h => by obtain ⟨r, I2, L2, rfl, rfl, h⟩ := h; exact kk r I2 L2 h)
theorem J.cVDv (C : CX l X V own cc nL Ts d mc ms ret) (hok : Dv l V y ws d' (.ref (ad V k) :: As) I L I' L') (hG : GoodIn Ts (wsV own index q.1 y ws)) (hw : ws = Cond.code y bytes maxL ret' :: ws') (hmf : MF y na) (hcls : y.cls = q.1) (hd' : d' + 1 ≤ d) (hml : maxL ≤ 29) (hk : k < 106) (hM : mm V I L k = .inr (ci, fs)) (hcl : vwCl[ci]? = some q) (hn : As.length = na) (hst : st = As.reverse ++ .ref (ad V k) :: rest) (hrm : (rest.map fun v => v.category).sum ≤ 8) (hd : decode cc pc = .ok (.invokevirtual index, 3)) (hc : cs ≤ mc) (hs : sl ≤ ms) (kk : J X V Q nL 106 cs sl (pc + 3) ls rest (mm V I' L')) : J X V Q nL 106 cs sl pc ls st (mm V I L) := J.callV C hok hG hw hmf hcls hd' hml hk hM hcl hn hst hrm hd hc hs (fun v M' h => by obtain ⟨rfl, rfl⟩ := h; exact kk)
theorem J.cVGv (C : CX l X V own cc nL Ts d mc ms ret) {post : (Nat → Nat → Int32) → (Nat → Nat → Int64) → Prop} (hok : Gv l V y ws d' (.ref (ad V k) :: As) I L post) (hG : GoodIn Ts (wsV own index q.1 y ws)) (hw : ws = Cond.code y bytes maxL ret' :: ws') (hmf : MF y na) (hcls : y.cls = q.1) (hd' : d' + 1 ≤ d) (hml : maxL ≤ 29) (hk : k < 106) (hM : mm V I L k = .inr (ci, fs)) (hcl : vwCl[ci]? = some q) (hn : As.length = na) (hst : st = As.reverse ++ .ref (ad V k) :: rest) (hrm : (rest.map fun v => v.category).sum ≤ 8) (hd : decode cc pc = .ok (.invokevirtual index, 3)) (hc : cs ≤ mc) (hs : sl ≤ ms) (kk : ∀ I' L', post I' L' → J X V Q nL 106 cs sl (pc + 3) ls rest (mm V I' L')) : J X V Q nL 106 cs sl pc ls st (mm V I L) := J.callV C hok hG hw hmf hcls hd' hml hk hM hcl hn hst hrm hd hc hs (fun v M' h => by obtain ⟨I2, L2, rfl, rfl, h⟩ := h; exact kk I2 L2 h)
end
end
