section
-- ===== PART A: goes FIRST, ahead of the names: the tables' words, and 'selects' of the private methods out of them =====
/-- a private method of a class that the tables say can be made, by its rows of tables_1 -/
def lw_okq (q : MethodName × Nat) : Prop := (q.1.cls ≠ "java/lang/invoke/MethodHandle" ∧ q.1.cls ≠ "java/lang/invoke/VarHandle") ∧ Cond.instantiable q.1.cls q.2 ∈ tables_1 ∧ Cond.privateMethod q.1 ∈ tables_1 ∧ Cond.instanceMethod q.1 ∈ tables_1
theorem lw_p0 : lw_okq (⟨"ClockCouncil", "findMember", "(I)LClockCouncil$Member;"⟩, 9) := ⟨⟨by decide +kernel, by decide +kernel⟩, List.mem_of_getElem? (i := 11) (by decide +kernel), List.mem_of_getElem? (i := 242) (by decide +kernel), List.mem_of_getElem? (i := 243) (by decide +kernel)⟩
theorem lw_p1 : lw_okq (⟨"ClockCouncil", "addLetter", "(LClockCouncil$Letter;)J"⟩, 9) := ⟨⟨by decide +kernel, by decide +kernel⟩, List.mem_of_getElem? (i := 11) (by decide +kernel), List.mem_of_getElem? (i := 364) (by decide +kernel), List.mem_of_getElem? (i := 365) (by decide +kernel)⟩
theorem lw_p2 : lw_okq (⟨"ClockCouncil", "findUnderWay", "(I)LClockCouncil$Letter;"⟩, 9) := ⟨⟨by decide +kernel, by decide +kernel⟩, List.mem_of_getElem? (i := 11) (by decide +kernel), List.mem_of_getElem? (i := 372) (by decide +kernel), List.mem_of_getElem? (i := 373) (by decide +kernel)⟩
theorem lw_p3 : lw_okq (⟨"ClockCouncil", "findLetter", "(I)LClockCouncil$Letter;"⟩, 9) := ⟨⟨by decide +kernel, by decide +kernel⟩, List.mem_of_getElem? (i := 11) (by decide +kernel), List.mem_of_getElem? (i := 376) (by decide +kernel), List.mem_of_getElem? (i := 377) (by decide +kernel)⟩
theorem lw_p4 : lw_okq (⟨"ClockCouncil", "gather", "(LClockCouncil$Member;)V"⟩, 9) := ⟨⟨by decide +kernel, by decide +kernel⟩, List.mem_of_getElem? (i := 11) (by decide +kernel), List.mem_of_getElem? (i := 431) (by decide +kernel), List.mem_of_getElem? (i := 432) (by decide +kernel)⟩
theorem lw_p5 : lw_okq (⟨"ClockCouncil", "noteMeeting", "(I)V"⟩, 9) := ⟨⟨by decide +kernel, by decide +kernel⟩, List.mem_of_getElem? (i := 11) (by decide +kernel), List.mem_of_getElem? (i := 477) (by decide +kernel), List.mem_of_getElem? (i := 478) (by decide +kernel)⟩
theorem lw_p6 : lw_okq (⟨"ClockCouncil", "findStamp", "(I)LClockCouncil$Stamp;"⟩, 9) := ⟨⟨by decide +kernel, by decide +kernel⟩, List.mem_of_getElem? (i := 11) (by decide +kernel), List.mem_of_getElem? (i := 526) (by decide +kernel), List.mem_of_getElem? (i := 527) (by decide +kernel)⟩
theorem lw_p7 : lw_okq (⟨"ClockCouncil", "latestStamped", "()J"⟩, 9) := ⟨⟨by decide +kernel, by decide +kernel⟩, List.mem_of_getElem? (i := 11) (by decide +kernel), List.mem_of_getElem? (i := 539) (by decide +kernel), List.mem_of_getElem? (i := 540) (by decide +kernel)⟩
theorem lw_p8 : lw_okq (⟨"ClockCouncil", "howManyUnderWay", "()I"⟩, 9) := ⟨⟨by decide +kernel, by decide +kernel⟩, List.mem_of_getElem? (i := 11) (by decide +kernel), List.mem_of_getElem? (i := 624) (by decide +kernel), List.mem_of_getElem? (i := 625) (by decide +kernel)⟩
theorem lw_p9 : lw_okq (⟨"ClockCouncilModel", "isMember", "(I)Z"⟩, 52) := ⟨⟨by decide +kernel, by decide +kernel⟩, List.mem_of_getElem? (i := 628) (by decide +kernel), List.mem_of_getElem? (i := 813) (by decide +kernel), List.mem_of_getElem? (i := 814) (by decide +kernel)⟩
theorem lw_p10 : lw_okq (⟨"ClockCouncilModel", "counterOf", "(I)J"⟩, 52) := ⟨⟨by decide +kernel, by decide +kernel⟩, List.mem_of_getElem? (i := 628) (by decide +kernel), List.mem_of_getElem? (i := 832) (by decide +kernel), List.mem_of_getElem? (i := 833) (by decide +kernel)⟩
theorem lw_p11 : lw_okq (⟨"ClockCouncilModel", "lowOf", "(I)J"⟩, 52) := ⟨⟨by decide +kernel, by decide +kernel⟩, List.mem_of_getElem? (i := 628) (by decide +kernel), List.mem_of_getElem? (i := 843) (by decide +kernel), List.mem_of_getElem? (i := 844) (by decide +kernel)⟩
theorem lw_p12 : lw_okq (⟨"ClockCouncilModel", "atLeast", "(IJ)J"⟩, 52) := ⟨⟨by decide +kernel, by decide +kernel⟩, List.mem_of_getElem? (i := 628) (by decide +kernel), List.mem_of_getElem? (i := 847) (by decide +kernel), List.mem_of_getElem? (i := 848) (by decide +kernel)⟩
theorem lw_p13 : lw_okq (⟨"ClockCouncilModel", "highOf", "(I)J"⟩, 52) := ⟨⟨by decide +kernel, by decide +kernel⟩, List.mem_of_getElem? (i := 628) (by decide +kernel), List.mem_of_getElem? (i := 851) (by decide +kernel), List.mem_of_getElem? (i := 852) (by decide +kernel)⟩
theorem lw_p14 : lw_okq (⟨"ClockCouncilModel", "atMost", "(IJ)J"⟩, 52) := ⟨⟨by decide +kernel, by decide +kernel⟩, List.mem_of_getElem? (i := 628) (by decide +kernel), List.mem_of_getElem? (i := 855) (by decide +kernel), List.mem_of_getElem? (i := 856) (by decide +kernel)⟩
theorem lw_p15 : lw_okq (⟨"ClockCouncilModel", "heardMany", "(I)I"⟩, 52) := ⟨⟨by decide +kernel, by decide +kernel⟩, List.mem_of_getElem? (i := 628) (by decide +kernel), List.mem_of_getElem? (i := 862) (by decide +kernel), List.mem_of_getElem? (i := 863) (by decide +kernel)⟩
def lw_privs_1 : List (MethodName × Nat) := [(⟨"ClockCouncil", "findMember", "(I)LClockCouncil$Member;"⟩, 9), (⟨"ClockCouncil", "addLetter", "(LClockCouncil$Letter;)J"⟩, 9), (⟨"ClockCouncil", "findUnderWay", "(I)LClockCouncil$Letter;"⟩, 9), (⟨"ClockCouncil", "findLetter", "(I)LClockCouncil$Letter;"⟩, 9), (⟨"ClockCouncil", "gather", "(LClockCouncil$Member;)V"⟩, 9), (⟨"ClockCouncil", "noteMeeting", "(I)V"⟩, 9), (⟨"ClockCouncil", "findStamp", "(I)LClockCouncil$Stamp;"⟩, 9), (⟨"ClockCouncil", "latestStamped", "()J"⟩, 9), (⟨"ClockCouncil", "howManyUnderWay", "()I"⟩, 9), (⟨"ClockCouncilModel", "isMember", "(I)Z"⟩, 52), (⟨"ClockCouncilModel", "counterOf", "(I)J"⟩, 52), (⟨"ClockCouncilModel", "lowOf", "(I)J"⟩, 52), (⟨"ClockCouncilModel", "atLeast", "(IJ)J"⟩, 52), (⟨"ClockCouncilModel", "highOf", "(I)J"⟩, 52), (⟨"ClockCouncilModel", "atMost", "(IJ)J"⟩, 52), (⟨"ClockCouncilModel", "heardMany", "(I)I"⟩, 52)]
theorem lw_r1 : ∀ q ∈ lw_privs_1, lw_okq q := List.forall_mem_cons.mpr ⟨lw_p0, List.forall_mem_cons.mpr ⟨lw_p1, List.forall_mem_cons.mpr ⟨lw_p2, List.forall_mem_cons.mpr ⟨lw_p3, List.forall_mem_cons.mpr ⟨lw_p4, List.forall_mem_cons.mpr ⟨lw_p5, List.forall_mem_cons.mpr ⟨lw_p6, List.forall_mem_cons.mpr ⟨lw_p7, List.forall_mem_cons.mpr ⟨lw_p8, List.forall_mem_cons.mpr ⟨lw_p9, List.forall_mem_cons.mpr ⟨lw_p10, List.forall_mem_cons.mpr ⟨lw_p11, List.forall_mem_cons.mpr ⟨lw_p12, List.forall_mem_cons.mpr ⟨lw_p13, List.forall_mem_cons.mpr ⟨lw_p14, List.forall_mem_cons.mpr ⟨lw_p15, fun _ h => absurd h List.not_mem_nil⟩⟩⟩⟩⟩⟩⟩⟩⟩⟩⟩⟩⟩⟩⟩⟩
theorem lw_p16 : lw_okq (⟨"ClockCouncilModel", "isUnderWay", "(I)Z"⟩, 52) := ⟨⟨by decide +kernel, by decide +kernel⟩, List.mem_of_getElem? (i := 628) (by decide +kernel), List.mem_of_getElem? (i := 874) (by decide +kernel), List.mem_of_getElem? (i := 875) (by decide +kernel)⟩
theorem lw_p17 : lw_okq (⟨"ClockCouncilModel", "heardLowOf", "(II)J"⟩, 52) := ⟨⟨by decide +kernel, by decide +kernel⟩, List.mem_of_getElem? (i := 628) (by decide +kernel), List.mem_of_getElem? (i := 895) (by decide +kernel), List.mem_of_getElem? (i := 896) (by decide +kernel)⟩
theorem lw_p18 : lw_okq (⟨"ClockCouncilModel", "heardHighOf", "(II)J"⟩, 52) := ⟨⟨by decide +kernel, by decide +kernel⟩, List.mem_of_getElem? (i := 628) (by decide +kernel), List.mem_of_getElem? (i := 899) (by decide +kernel), List.mem_of_getElem? (i := 900) (by decide +kernel)⟩
theorem lw_p19 : lw_okq (⟨"ClockCouncilModel", "gather", "(I)V"⟩, 52) := ⟨⟨by decide +kernel, by decide +kernel⟩, List.mem_of_getElem? (i := 628) (by decide +kernel), List.mem_of_getElem? (i := 907) (by decide +kernel), List.mem_of_getElem? (i := 908) (by decide +kernel)⟩
theorem lw_p20 : lw_okq (⟨"ClockCouncilModel", "votesFor", "(J)I"⟩, 52) := ⟨⟨by decide +kernel, by decide +kernel⟩, List.mem_of_getElem? (i := 628) (by decide +kernel), List.mem_of_getElem? (i := 911) (by decide +kernel), List.mem_of_getElem? (i := 912) (by decide +kernel)⟩
theorem lw_p21 : lw_okq (⟨"ClockCouncilModel", "findCouncil", "(I)Z"⟩, 52) := ⟨⟨by decide +kernel, by decide +kernel⟩, List.mem_of_getElem? (i := 628) (by decide +kernel), List.mem_of_getElem? (i := 919) (by decide +kernel), List.mem_of_getElem? (i := 920) (by decide +kernel)⟩
theorem lw_p22 : lw_okq (⟨"ClockCouncilModel", "isStamp", "(I)Z"⟩, 52) := ⟨⟨by decide +kernel, by decide +kernel⟩, List.mem_of_getElem? (i := 628) (by decide +kernel), List.mem_of_getElem? (i := 939) (by decide +kernel), List.mem_of_getElem? (i := 940) (by decide +kernel)⟩
theorem lw_p23 : lw_okq (⟨"ClockCouncilModel", "isEvent", "(I)Z"⟩, 52) := ⟨⟨by decide +kernel, by decide +kernel⟩, List.mem_of_getElem? (i := 628) (by decide +kernel), List.mem_of_getElem? (i := 960) (by decide +kernel), List.mem_of_getElem? (i := 961) (by decide +kernel)⟩
theorem lw_p24 : lw_okq (⟨"ClockCouncilModel", "findLongest", "()Z"⟩, 52) := ⟨⟨by decide +kernel, by decide +kernel⟩, List.mem_of_getElem? (i := 628) (by decide +kernel), List.mem_of_getElem? (i := 968) (by decide +kernel), List.mem_of_getElem? (i := 969) (by decide +kernel)⟩
theorem lw_p25 : lw_okq (⟨"ClockCouncilModel", "findTimes", "()Z"⟩, 52) := ⟨⟨by decide +kernel, by decide +kernel⟩, List.mem_of_getElem? (i := 628) (by decide +kernel), List.mem_of_getElem? (i := 976) (by decide +kernel), List.mem_of_getElem? (i := 977) (by decide +kernel)⟩
theorem lw_p26 : lw_okq (⟨"ClockCouncilModel", "ringFrom", "(I)I"⟩, 52) := ⟨⟨by decide +kernel, by decide +kernel⟩, List.mem_of_getElem? (i := 628) (by decide +kernel), List.mem_of_getElem? (i := 989) (by decide +kernel), List.mem_of_getElem? (i := 990) (by decide +kernel)⟩
def lw_privs_2 : List (MethodName × Nat) := [(⟨"ClockCouncilModel", "isUnderWay", "(I)Z"⟩, 52), (⟨"ClockCouncilModel", "heardLowOf", "(II)J"⟩, 52), (⟨"ClockCouncilModel", "heardHighOf", "(II)J"⟩, 52), (⟨"ClockCouncilModel", "gather", "(I)V"⟩, 52), (⟨"ClockCouncilModel", "votesFor", "(J)I"⟩, 52), (⟨"ClockCouncilModel", "findCouncil", "(I)Z"⟩, 52), (⟨"ClockCouncilModel", "isStamp", "(I)Z"⟩, 52), (⟨"ClockCouncilModel", "isEvent", "(I)Z"⟩, 52), (⟨"ClockCouncilModel", "findLongest", "()Z"⟩, 52), (⟨"ClockCouncilModel", "findTimes", "()Z"⟩, 52), (⟨"ClockCouncilModel", "ringFrom", "(I)I"⟩, 52)]
theorem lw_r2 : ∀ q ∈ lw_privs_2, lw_okq q := List.forall_mem_cons.mpr ⟨lw_p16, List.forall_mem_cons.mpr ⟨lw_p17, List.forall_mem_cons.mpr ⟨lw_p18, List.forall_mem_cons.mpr ⟨lw_p19, List.forall_mem_cons.mpr ⟨lw_p20, List.forall_mem_cons.mpr ⟨lw_p21, List.forall_mem_cons.mpr ⟨lw_p22, List.forall_mem_cons.mpr ⟨lw_p23, List.forall_mem_cons.mpr ⟨lw_p24, List.forall_mem_cons.mpr ⟨lw_p25, List.forall_mem_cons.mpr ⟨lw_p26, fun _ h => absurd h List.not_mem_nil⟩⟩⟩⟩⟩⟩⟩⟩⟩⟩⟩
def lw_privs : List (MethodName × Nat) := lw_privs_1 ++ (lw_privs_2)
def lw_tbl : List Cond := k2_sels lw_privs ++ tables_1
theorem lw_privs_ok : ∀ q ∈ lw_privs, lw_okq q := by
  show ∀ q ∈ lw_privs_1 ++ (lw_privs_2), lw_okq q
  exact List.forall_mem_append.mpr ⟨lw_r1, lw_r2⟩

theorem goodIn_r {big : List Cond} (ws : List Cond) (ps : List Nat) (hp : ws = ps.filterMap (fun i => big[i]?)) (h : ws.all goodWord = true) : GoodIn big ws := by
  intro w hw
  have h1 := List.all_eq_true.mp h w hw
  rw [hp] at hw
  obtain ⟨i, -, hi⟩ := List.mem_filterMap.mp hw
  have hm : w ∈ big := by first | exact List.mem_of_getElem? hi | exact List.getElem?_mem hi
  exact ⟨hm, good_of_word h1⟩
theorem goodIn_app {big a b : List Cond} (ha : GoodIn big a) (hb : GoodIn big b) : GoodIn big (a ++ b) := fun w h => (List.mem_append.mp h).elim (ha w) (hb w)
theorem goodIn_ca {big a b : List Cond} {c : Cond} (ha : GoodIn big (c :: a)) (hb : GoodIn big b) : GoodIn big (c :: (a ++ b)) := fun w h => (List.mem_cons.mp h).elim (fun e => ha w (List.mem_cons.mpr (Or.inl e))) (fun h => (List.mem_append.mp h).elim (fun h => ha w (List.mem_cons.mpr (Or.inr h))) (hb w))
theorem goodIn_sub {big ws : List Cond} (hm : ∀ w ∈ ws, w ∈ big) (h : ws.all goodWord = true) : GoodIn big ws := fun w hw => ⟨hm w hw, good_of_word (List.all_eq_true.mp h w hw)⟩
def RX0 : String := "ClockCouncil$Gathering"
def TX0 : u_T := fun k => match k with
  | 0 => ("ClockCouncil$Gathering", "who", "[I", true)
  | 1 => ("ClockCouncil$Gathering", "lows", "[J", true)
  | 2 => ("ClockCouncil$Gathering", "highs", "[J", true)
  | _ => ("ClockCouncil$Gathering", "size", "I", false)
def tyX0 : Nat → FieldType := fun k => match k with
  | 0 => .array .int
  | 1 => .array .long
  | 2 => .array .long
  | _ => .int
abbrev wsX00 : List Cond := u_ws RX0 TX0 4
theorem nmX0 : ∀ a, a < 4 → ∀ b, b < 4 → a ≠ b → (TX0 a).2.1 ≠ (TX0 b).2.1 := by decide +kernel
theorem tyX0_ok : ∀ k, k < 4 → parseFieldDescriptor (TX0 k).2.2.1 = some (tyX0 k) := by decide +kernel
abbrev cX0_init : ByteArray := prog_2_method_1_code
def yX0_init : MethodName := ⟨RX0, "<init>", "()V"⟩
abbrev cX0_clear : ByteArray := prog_2_method_2_code
def yX0_clear : MethodName := ⟨RX0, "clear", "()V"⟩
abbrev cX0_add : ByteArray := prog_2_method_3_code
def yX0_add : MethodName := ⟨RX0, "add", "(IJJ)V"⟩
abbrev cX0_having : ByteArray := prog_2_method_4_code
def yX0_having : MethodName := ⟨RX0, "having", "(J)I"⟩
abbrev cX0_least : ByteArray := prog_2_method_5_code
def yX0_least : MethodName := ⟨RX0, "least", "(I)J"⟩
abbrev cX0_greatest : ByteArray := prog_2_method_6_code
def yX0_greatest : MethodName := ⟨RX0, "greatest", "(I)J"⟩
abbrev cX0_pieces : ByteArray := prog_2_method_7_code
def yX0_pieces : MethodName := ⟨RX0, "pieces", "(I)I"⟩
abbrev cX0_beganBefore : ByteArray := prog_2_method_8_code
def yX0_beganBefore : MethodName := ⟨RX0, "beganBefore", "(I)Z"⟩
abbrev cX0_apartFrom : ByteArray := prog_2_method_9_code
def yX0_apartFrom : MethodName := ⟨RX0, "apartFrom", "(JJ)I"⟩
def RX1 : String := "ClockCouncil$Letter"
def TX1 : u_T := fun k => match k with
  | 0 => ("ClockCouncil$Letter", "asker", "LClockCouncil$Member;", true)
  | 1 => ("ClockCouncil$Letter", "asked", "LClockCouncil$Member;", true)
  | 2 => ("ClockCouncil$Letter", "askedAt", "J", true)
  | 3 => ("ClockCouncil$Letter", "state", "I", false)
  | 4 => ("ClockCouncil$Letter", "answered", "Z", false)
  | 5 => ("ClockCouncil$Letter", "low", "J", false)
  | _ => ("ClockCouncil$Letter", "high", "J", false)
def tyX1 : Nat → FieldType := fun k => match k with
  | 0 => .object "ClockCouncil$Member"
  | 1 => .object "ClockCouncil$Member"
  | 2 => .long
  | 3 => .int
  | 4 => .boolean
  | 5 => .long
  | _ => .long
abbrev wsX10 : List Cond := u_ws RX1 TX1 7
theorem nmX1 : ∀ a, a < 7 → ∀ b, b < 7 → a ≠ b → (TX1 a).2.1 ≠ (TX1 b).2.1 := by decide +kernel
theorem tyX1_ok : ∀ k, k < 7 → parseFieldDescriptor (TX1 k).2.2.1 = some (tyX1 k) := by decide +kernel
abbrev cX1_init : ByteArray := prog_3_method_1_code
def yX1_init : MethodName := ⟨RX1, "<init>", "(LClockCouncil$Member;LClockCouncil$Member;J)V"⟩
abbrev cX1_isUnderWay : ByteArray := prog_3_method_2_code
def yX1_isUnderWay : MethodName := ⟨RX1, "isUnderWay", "()Z"⟩
abbrev cX1_takeAnswer : ByteArray := prog_3_method_3_code
def yX1_takeAnswer : MethodName := ⟨RX1, "takeAnswer", "(J)V"⟩
abbrev cX1_bringBack : ByteArray := prog_3_method_4_code
def yX1_bringBack : MethodName := ⟨RX1, "bringBack", "(J)V"⟩
def RX2 : String := "ClockCouncil$Member"
def TX2 : u_T := fun k => match k with
  | 0 => ("ClockCouncil$Member", "number", "I", true)
  | 1 => ("ClockCouncil$Member", "kind", "I", true)
  | 2 => ("ClockCouncil$Member", "drift", "I", true)
  | 3 => ("ClockCouncil$Member", "nearness", "I", true)
  | 4 => ("ClockCouncil$Member", "came", "J", true)
  | 5 => ("ClockCouncil$Member", "up", "I", false)
  | 6 => ("ClockCouncil$Member", "down", "I", false)
  | 7 => ("ClockCouncil$Member", "rests", "Z", false)
  | 8 => ("ClockCouncil$Member", "own", "LClockCouncil$Span;", true)
  | 9 => ("ClockCouncil$Member", "spansHeard", "[LClockCouncil$Span;", true)
  | 10 => ("ClockCouncil$Member", "toldLow", "J", false)
  | 11 => ("ClockCouncil$Member", "toldHigh", "J", false)
  | 12 => ("ClockCouncil$Member", "shown", "J", false)
  | 13 => ("ClockCouncil$Member", "ledAt", "J", false)
  | 14 => ("ClockCouncil$Member", "timesLiar", "I", false)
  | _ => ("ClockCouncil$Member", "timesMet", "I", false)
def tyX2 : Nat → FieldType := fun k => match k with
  | 0 => .int
  | 1 => .int
  | 2 => .int
  | 3 => .int
  | 4 => .long
  | 5 => .int
  | 6 => .int
  | 7 => .boolean
  | 8 => .object "ClockCouncil$Span"
  | 9 => .array (.object "ClockCouncil$Span")
  | 10 => .long
  | 11 => .long
  | 12 => .long
  | 13 => .long
  | 14 => .int
  | _ => .int
abbrev wsX20 : List Cond := u_ws RX2 TX2 16
theorem nmX2 : ∀ a, a < 16 → ∀ b, b < 16 → a ≠ b → (TX2 a).2.1 ≠ (TX2 b).2.1 := by decide +kernel
theorem tyX2_ok : ∀ k, k < 16 → parseFieldDescriptor (TX2 k).2.2.1 = some (tyX2 k) := by decide +kernel
abbrev cX2_init : ByteArray := prog_4_method_1_code
def yX2_init : MethodName := ⟨RX2, "<init>", "(IIIIJ)V"⟩
abbrev cX2_countedAt : ByteArray := prog_4_method_2_code
def yX2_countedAt : MethodName := ⟨RX2, "countedAt", "(J)J"⟩
abbrev cX2_lowAt : ByteArray := prog_4_method_3_code
def yX2_lowAt : MethodName := ⟨RX2, "lowAt", "(J)J"⟩
abbrev cX2_highAt : ByteArray := prog_4_method_4_code
def yX2_highAt : MethodName := ⟨RX2, "highAt", "(J)J"⟩
abbrev cX2_holds : ByteArray := prog_4_method_5_code
def yX2_holds : MethodName := ⟨RX2, "holds", "(J)Z"⟩
abbrev cX2_spanOf : ByteArray := prog_4_method_6_code
def yX2_spanOf : MethodName := ⟨RX2, "spanOf", "(I)LClockCouncil$Span;"⟩
abbrev cX2_hasHeardOf : ByteArray := prog_4_method_7_code
def yX2_hasHeardOf : MethodName := ⟨RX2, "hasHeardOf", "(I)Z"⟩
abbrev cX2_heardLowAt : ByteArray := prog_4_method_8_code
def yX2_heardLowAt : MethodName := ⟨RX2, "heardLowAt", "(IJ)J"⟩
abbrev cX2_heardHighAt : ByteArray := prog_4_method_9_code
def yX2_heardHighAt : MethodName := ⟨RX2, "heardHighAt", "(IJ)J"⟩
abbrev cX2_hear : ByteArray := prog_4_method_10_code
def yX2_hear : MethodName := ⟨RX2, "hear", "(IJJJ)V"⟩
abbrev cX2_howManyHeard : ByteArray := prog_4_method_11_code
def yX2_howManyHeard : MethodName := ⟨RX2, "howManyHeard", "()I"⟩
abbrev cX2_forgetHeard : ByteArray := prog_4_method_12_code
def yX2_forgetHeard : MethodName := ⟨RX2, "forgetHeard", "()V"⟩
def RX3 : String := "ClockCouncil$Sorting"
def TX3 : u_T := fun k => match k with
  | 0 => ("ClockCouncil$Sorting", "lows", "[J", true)
  | 1 => ("ClockCouncil$Sorting", "highs", "[J", true)
  | 2 => ("ClockCouncil$Sorting", "eventCount", "I", false)
  | 3 => ("ClockCouncil$Sorting", "from", "[I", true)
  | 4 => ("ClockCouncil$Sorting", "to", "[I", true)
  | 5 => ("ClockCouncil$Sorting", "linkCount", "I", false)
  | 6 => ("ClockCouncil$Sorting", "after", "[I", true)
  | 7 => ("ClockCouncil$Sorting", "earliest", "[J", true)
  | 8 => ("ClockCouncil$Sorting", "ranked", "[I", true)
  | 9 => ("ClockCouncil$Sorting", "ringed", "[I", true)
  | 10 => ("ClockCouncil$Sorting", "away", "[I", true)
  | 11 => ("ClockCouncil$Sorting", "ringLength", "I", false)
  | 12 => ("ClockCouncil$Sorting", "widening", "J", false)
  | _ => ("ClockCouncil$Sorting", "settled", "Z", false)
def tyX3 : Nat → FieldType := fun k => match k with
  | 0 => .array .long
  | 1 => .array .long
  | 2 => .int
  | 3 => .array .int
  | 4 => .array .int
  | 5 => .int
  | 6 => .array .int
  | 7 => .array .long
  | 8 => .array .int
  | 9 => .array .int
  | 10 => .array .int
  | 11 => .int
  | 12 => .long
  | _ => .boolean
abbrev wsX30 : List Cond := u_ws RX3 TX3 14
theorem nmX3 : ∀ a, a < 14 → ∀ b, b < 14 → a ≠ b → (TX3 a).2.1 ≠ (TX3 b).2.1 := by decide +kernel
theorem tyX3_ok : ∀ k, k < 14 → parseFieldDescriptor (TX3 k).2.2.1 = some (tyX3 k) := by decide +kernel
abbrev cX3_init : ByteArray := prog_5_method_1_code
def yX3_init : MethodName := ⟨RX3, "<init>", "()V"⟩
abbrev cX3_hasEvent : ByteArray := prog_5_method_2_code
def yX3_hasEvent : MethodName := ⟨RX3, "hasEvent", "(I)Z"⟩
abbrev cX3_addEvent : ByteArray := prog_5_method_3_code
def yX3_addEvent : MethodName := ⟨RX3, "addEvent", "(JJ)J"⟩
abbrev cX3_addLink : ByteArray := prog_5_method_4_code
def yX3_addLink : MethodName := ⟨RX3, "addLink", "(II)J"⟩
abbrev cX3_settle : ByteArray := prog_5_method_5_code
def yX3_settle : MethodName := ⟨RX3, "settle", "()V"⟩
abbrev cX3_findEarliest : ByteArray := prog_5_method_6_code
def yX3_findEarliest : MethodName := ⟨RX3, "findEarliest", "()Z"⟩
abbrev cX3_raiseOnce : ByteArray := prog_5_method_7_code
def yX3_raiseOnce : MethodName := ⟨RX3, "raiseOnce", "()Z"⟩
abbrev cX3_findWidening : ByteArray := prog_5_method_8_code
def yX3_findWidening : MethodName := ⟨RX3, "findWidening", "()V"⟩
abbrev cX3_rank : ByteArray := prog_5_method_9_code
def yX3_rank : MethodName := ⟨RX3, "rank", "()V"⟩
abbrev cX3_findRing : ByteArray := prog_5_method_10_code
def yX3_findRing : MethodName := ⟨RX3, "findRing", "()V"⟩
abbrev cX3_measureTo : ByteArray := prog_5_method_11_code
def yX3_measureTo : MethodName := ⟨RX3, "measureTo", "(I)V"⟩
abbrev cX3_nearestAfter : ByteArray := prog_5_method_12_code
def yX3_nearestAfter : MethodName := ⟨RX3, "nearestAfter", "(I)I"⟩
def RX4 : String := "ClockCouncil$Span"
def TX4 : u_T := fun k => match k with
  | 0 => ("ClockCouncil$Span", "known", "Z", false)
  | 1 => ("ClockCouncil$Span", "low", "J", false)
  | 2 => ("ClockCouncil$Span", "high", "J", false)
  | _ => ("ClockCouncil$Span", "asOf", "J", false)
def tyX4 : Nat → FieldType := fun k => match k with
  | 0 => .boolean
  | 1 => .long
  | 2 => .long
  | _ => .long
abbrev wsX40 : List Cond := u_ws RX4 TX4 4
theorem nmX4 : ∀ a, a < 4 → ∀ b, b < 4 → a ≠ b → (TX4 a).2.1 ≠ (TX4 b).2.1 := by decide +kernel
theorem tyX4_ok : ∀ k, k < 4 → parseFieldDescriptor (TX4 k).2.2.1 = some (tyX4 k) := by decide +kernel
abbrev cX4_init : ByteArray := prog_6_method_1_code
def yX4_init : MethodName := ⟨RX4, "<init>", "()V"⟩
abbrev cX4_put : ByteArray := prog_6_method_2_code
def yX4_put : MethodName := ⟨RX4, "put", "(JJJ)V"⟩
abbrev cX4_lowWhen : ByteArray := prog_6_method_3_code
def yX4_lowWhen : MethodName := ⟨RX4, "lowWhen", "(JI)J"⟩
abbrev cX4_highWhen : ByteArray := prog_6_method_4_code
def yX4_highWhen : MethodName := ⟨RX4, "highWhen", "(JI)J"⟩
def RX5 : String := "ClockCouncil$Stamp"
def TX5 : u_T := fun k => match k with
  | 0 => ("ClockCouncil$Stamp", "low", "J", true)
  | 1 => ("ClockCouncil$Stamp", "high", "J", true)
  | 2 => ("ClockCouncil$Stamp", "giver", "I", true)
  | _ => ("ClockCouncil$Stamp", "right", "Z", true)
def tyX5 : Nat → FieldType := fun k => match k with
  | 0 => .long
  | 1 => .long
  | 2 => .int
  | _ => .boolean
abbrev wsX50 : List Cond := u_ws RX5 TX5 4
theorem nmX5 : ∀ a, a < 4 → ∀ b, b < 4 → a ≠ b → (TX5 a).2.1 ≠ (TX5 b).2.1 := by decide +kernel
theorem tyX5_ok : ∀ k, k < 4 → parseFieldDescriptor (TX5 k).2.2.1 = some (tyX5 k) := by decide +kernel
abbrev cX5_init : ByteArray := prog_7_method_1_code
def yX5_init : MethodName := ⟨RX5, "<init>", "(JJIZ)V"⟩
def RX6 : String := "ClockCouncil"
def TX6 : u_T := fun k => match k with
  | 0 => ("ClockCouncil", "trueTime", "J", false)
  | 1 => ("ClockCouncil", "members", "[LClockCouncil$Member;", true)
  | 2 => ("ClockCouncil", "memberCount", "I", false)
  | 3 => ("ClockCouncil", "letters", "[LClockCouncil$Letter;", true)
  | 4 => ("ClockCouncil", "letterCount", "I", false)
  | 5 => ("ClockCouncil", "stamps", "[LClockCouncil$Stamp;", true)
  | 6 => ("ClockCouncil", "stampCount", "I", false)
  | 7 => ("ClockCouncil", "gathering", "LClockCouncil$Gathering;", true)
  | _ => ("ClockCouncil", "sorting", "LClockCouncil$Sorting;", true)
def tyX6 : Nat → FieldType := fun k => match k with
  | 0 => .long
  | 1 => .array (.object "ClockCouncil$Member")
  | 2 => .int
  | 3 => .array (.object "ClockCouncil$Letter")
  | 4 => .int
  | 5 => .array (.object "ClockCouncil$Stamp")
  | 6 => .int
  | 7 => .object "ClockCouncil$Gathering"
  | _ => .object "ClockCouncil$Sorting"
abbrev wsX60 : List Cond := u_ws RX6 TX6 9
theorem nmX6 : ∀ a, a < 9 → ∀ b, b < 9 → a ≠ b → (TX6 a).2.1 ≠ (TX6 b).2.1 := by decide +kernel
theorem tyX6_ok : ∀ k, k < 9 → parseFieldDescriptor (TX6 k).2.2.1 = some (tyX6 k) := by decide +kernel
abbrev cX6_init : ByteArray := prog_1_method_1_code
def yX6_init : MethodName := ⟨RX6, "<init>", "()V"⟩
abbrev cX6_go : ByteArray := prog_1_method_2_code
def yX6_go : MethodName := ⟨RX6, "go", "(I)J"⟩
abbrev cX6_member : ByteArray := prog_1_method_3_code
def yX6_member : MethodName := ⟨RX6, "member", "(III)J"⟩
abbrev cX6_rate : ByteArray := prog_1_method_4_code
def yX6_rate : MethodName := ⟨RX6, "rate", "(III)J"⟩
abbrev cX6_lie : ByteArray := prog_1_method_5_code
def yX6_lie : MethodName := ⟨RX6, "lie", "(IJJ)J"⟩
abbrev cX6_rest : ByteArray := prog_1_method_6_code
def yX6_rest : MethodName := ⟨RX6, "rest", "(IZ)J"⟩
abbrev cX6_counter : ByteArray := prog_1_method_7_code
def yX6_counter : MethodName := ⟨RX6, "counter", "(I)J"⟩
abbrev cX6_of : ByteArray := prog_1_method_8_code
def yX6_of : MethodName := ⟨RX6, "of", "(II)J"⟩
abbrev cX6_ask : ByteArray := prog_1_method_9_code
def yX6_ask : MethodName := ⟨RX6, "ask", "(II)J"⟩
abbrev cX6_deliver : ByteArray := prog_1_method_10_code
def yX6_deliver : MethodName := ⟨RX6, "deliver", "(I)J"⟩
abbrev cX6_lose : ByteArray := prog_1_method_11_code
def yX6_lose : MethodName := ⟨RX6, "lose", "(I)J"⟩
abbrev cX6_twice : ByteArray := prog_1_method_12_code
def yX6_twice : MethodName := ⟨RX6, "twice", "(I)J"⟩
abbrev cX6_letter : ByteArray := prog_1_method_13_code
def yX6_letter : MethodName := ⟨RX6, "letter", "(II)J"⟩
abbrev cX6_heard : ByteArray := prog_1_method_14_code
def yX6_heard : MethodName := ⟨RX6, "heard", "(III)J"⟩
abbrev cX6_votes : ByteArray := prog_1_method_15_code
def yX6_votes : MethodName := ⟨RX6, "votes", "(IJ)J"⟩
abbrev cX6_council : ByteArray := prog_1_method_16_code
def yX6_council : MethodName := ⟨RX6, "council", "(III)J"⟩
abbrev cX6_meet : ByteArray := prog_1_method_17_code
def yX6_meet : MethodName := ⟨RX6, "meet", "(II)J"⟩
abbrev cX6_lead : ByteArray := prog_1_method_18_code
def yX6_lead : MethodName := ⟨RX6, "lead", "(II)J"⟩
abbrev cX6_stamp : ByteArray := prog_1_method_19_code
def yX6_stamp : MethodName := ⟨RX6, "stamp", "(I)J"⟩
abbrev cX6_given : ByteArray := prog_1_method_20_code
def yX6_given : MethodName := ⟨RX6, "given", "(II)J"⟩
abbrev cX6_ahead : ByteArray := prog_1_method_21_code
def yX6_ahead : MethodName := ⟨RX6, "ahead", "(II)J"⟩
abbrev cX6_wait : ByteArray := prog_1_method_22_code
def yX6_wait : MethodName := ⟨RX6, "wait", "(I)J"⟩
abbrev cX6_event : ByteArray := prog_1_method_23_code
def yX6_event : MethodName := ⟨RX6, "event", "(I)J"⟩
abbrev cX6_link : ByteArray := prog_1_method_24_code
def yX6_link : MethodName := ⟨RX6, "link", "(II)J"⟩
abbrev cX6_mend : ByteArray := prog_1_method_25_code
def yX6_mend : MethodName := ⟨RX6, "mend", "()J"⟩
abbrev cX6_order : ByteArray := prog_1_method_26_code
def yX6_order : MethodName := ⟨RX6, "order", "(I)J"⟩
abbrev cX6_time : ByteArray := prog_1_method_27_code
def yX6_time : MethodName := ⟨RX6, "time", "(I)J"⟩
abbrev cX6_ring : ByteArray := prog_1_method_28_code
def yX6_ring : MethodName := ⟨RX6, "ring", "(I)J"⟩
abbrev cX6_count : ByteArray := prog_1_method_29_code
def yX6_count : MethodName := ⟨RX6, "count", "(I)J"⟩
abbrev cX6_findMember : ByteArray := prog_1_method_30_code
def yX6_findMember : MethodName := ⟨RX6, "findMember", "(I)LClockCouncil$Member;"⟩
abbrev cX6_findLetter : ByteArray := prog_1_method_31_code
def yX6_findLetter : MethodName := ⟨RX6, "findLetter", "(I)LClockCouncil$Letter;"⟩
abbrev cX6_findUnderWay : ByteArray := prog_1_method_32_code
def yX6_findUnderWay : MethodName := ⟨RX6, "findUnderWay", "(I)LClockCouncil$Letter;"⟩
abbrev cX6_findStamp : ByteArray := prog_1_method_33_code
def yX6_findStamp : MethodName := ⟨RX6, "findStamp", "(I)LClockCouncil$Stamp;"⟩
abbrev cX6_addLetter : ByteArray := prog_1_method_34_code
def yX6_addLetter : MethodName := ⟨RX6, "addLetter", "(LClockCouncil$Letter;)J"⟩
abbrev cX6_howManyUnderWay : ByteArray := prog_1_method_35_code
def yX6_howManyUnderWay : MethodName := ⟨RX6, "howManyUnderWay", "()I"⟩
abbrev cX6_gather : ByteArray := prog_1_method_36_code
def yX6_gather : MethodName := ⟨RX6, "gather", "(LClockCouncil$Member;)V"⟩
abbrev cX6_noteMeeting : ByteArray := prog_1_method_37_code
def yX6_noteMeeting : MethodName := ⟨RX6, "noteMeeting", "(I)V"⟩
abbrev cX6_latestStamped : ByteArray := prog_1_method_38_code
def yX6_latestStamped : MethodName := ⟨RX6, "latestStamped", "()J"⟩
abbrev cX6_asBit : ByteArray := prog_1_method_39_code
def yX6_asBit : MethodName := ⟨RX6, "asBit", "(Z)J"⟩
abbrev cX6_floorOf : ByteArray := prog_1_method_40_code
def yX6_floorOf : MethodName := ⟨RX6, "floorOf", "(JJ)J"⟩
abbrev cX6_ceilOf : ByteArray := prog_1_method_41_code
def yX6_ceilOf : MethodName := ⟨RX6, "ceilOf", "(JJ)J"⟩
abbrev cX6_atLeast : ByteArray := prog_1_method_42_code
def yX6_atLeast : MethodName := ⟨RX6, "atLeast", "(JI)J"⟩
abbrev cX6_atMost : ByteArray := prog_1_method_43_code
def yX6_atMost : MethodName := ⟨RX6, "atMost", "(JI)J"⟩
abbrev cX6_countFor : ByteArray := prog_1_method_44_code
def yX6_countFor : MethodName := ⟨RX6, "countFor", "(JI)J"⟩
def RX7 : String := "ClockCouncilModel"
def TX7 : u_T := fun k => match k with
  | 0 => ("ClockCouncilModel", "now", "J", false)
  | 1 => ("ClockCouncilModel", "members", "I", false)
  | 2 => ("ClockCouncilModel", "kinds", "[I", true)
  | 3 => ("ClockCouncilModel", "drifts", "[J", true)
  | 4 => ("ClockCouncilModel", "nears", "[J", true)
  | 5 => ("ClockCouncilModel", "born", "[J", true)
  | 6 => ("ClockCouncilModel", "ups", "[J", true)
  | 7 => ("ClockCouncilModel", "downs", "[J", true)
  | 8 => ("ClockCouncilModel", "lows", "[J", true)
  | 9 => ("ClockCouncilModel", "highs", "[J", true)
  | 10 => ("ClockCouncilModel", "since", "[J", true)
  | 11 => ("ClockCouncilModel", "lieLows", "[J", true)
  | 12 => ("ClockCouncilModel", "lieHighs", "[J", true)
  | 13 => ("ClockCouncilModel", "rests", "[Z", true)
  | 14 => ("ClockCouncilModel", "shown", "[J", true)
  | 15 => ("ClockCouncilModel", "led", "[J", true)
  | 16 => ("ClockCouncilModel", "liars", "[I", true)
  | 17 => ("ClockCouncilModel", "met", "[I", true)
  | 18 => ("ClockCouncilModel", "hasHeard", "[Z", true)
  | 19 => ("ClockCouncilModel", "heardLow", "[J", true)
  | 20 => ("ClockCouncilModel", "heardHigh", "[J", true)
  | 21 => ("ClockCouncilModel", "heardAt", "[J", true)
  | 22 => ("ClockCouncilModel", "letters", "I", false)
  | 23 => ("ClockCouncilModel", "from", "[I", true)
  | 24 => ("ClockCouncilModel", "to", "[I", true)
  | 25 => ("ClockCouncilModel", "states", "[I", true)
  | 26 => ("ClockCouncilModel", "askedAt", "[J", true)
  | 27 => ("ClockCouncilModel", "hasAnswer", "[Z", true)
  | 28 => ("ClockCouncilModel", "answerLow", "[J", true)
  | 29 => ("ClockCouncilModel", "answerHigh", "[J", true)
  | 30 => ("ClockCouncilModel", "stamps", "I", false)
  | 31 => ("ClockCouncilModel", "stampLow", "[J", true)
  | 32 => ("ClockCouncilModel", "stampHigh", "[J", true)
  | 33 => ("ClockCouncilModel", "stampOf", "[I", true)
  | 34 => ("ClockCouncilModel", "stampRight", "[Z", true)
  | 35 => ("ClockCouncilModel", "events", "I", false)
  | 36 => ("ClockCouncilModel", "eventLow", "[J", true)
  | 37 => ("ClockCouncilModel", "eventHigh", "[J", true)
  | 38 => ("ClockCouncilModel", "links", "I", false)
  | 39 => ("ClockCouncilModel", "isLink", "[Z", true)
  | 40 => ("ClockCouncilModel", "spans", "I", false)
  | 41 => ("ClockCouncilModel", "spanOf", "[I", true)
  | 42 => ("ClockCouncilModel", "spanLow", "[J", true)
  | 43 => ("ClockCouncilModel", "spanHigh", "[J", true)
  | 44 => ("ClockCouncilModel", "points", "[J", true)
  | 45 => ("ClockCouncilModel", "pieces", "I", false)
  | 46 => ("ClockCouncilModel", "councilLow", "J", false)
  | 47 => ("ClockCouncilModel", "councilHigh", "J", false)
  | 48 => ("ClockCouncilModel", "councilLiars", "J", false)
  | 49 => ("ClockCouncilModel", "longest", "[I", true)
  | 50 => ("ClockCouncilModel", "times", "[J", true)
  | _ => ("ClockCouncilModel", "steps", "[I", true)
def tyX7 : Nat → FieldType := fun k => match k with
  | 0 => .long
  | 1 => .int
  | 2 => .array .int
  | 3 => .array .long
  | 4 => .array .long
  | 5 => .array .long
  | 6 => .array .long
  | 7 => .array .long
  | 8 => .array .long
  | 9 => .array .long
  | 10 => .array .long
  | 11 => .array .long
  | 12 => .array .long
  | 13 => .array .boolean
  | 14 => .array .long
  | 15 => .array .long
  | 16 => .array .int
  | 17 => .array .int
  | 18 => .array .boolean
  | 19 => .array .long
  | 20 => .array .long
  | 21 => .array .long
  | 22 => .int
  | 23 => .array .int
  | 24 => .array .int
  | 25 => .array .int
  | 26 => .array .long
  | 27 => .array .boolean
  | 28 => .array .long
  | 29 => .array .long
  | 30 => .int
  | 31 => .array .long
  | 32 => .array .long
  | 33 => .array .int
  | 34 => .array .boolean
  | 35 => .int
  | 36 => .array .long
  | 37 => .array .long
  | 38 => .int
  | 39 => .array .boolean
  | 40 => .int
  | 41 => .array .int
  | 42 => .array .long
  | 43 => .array .long
  | 44 => .array .long
  | 45 => .int
  | 46 => .long
  | 47 => .long
  | 48 => .long
  | 49 => .array .int
  | 50 => .array .long
  | _ => .array .int
abbrev wsX70 : List Cond := u_ws RX7 TX7 52
theorem nmX7 : ∀ a, a < 52 → ∀ b, b < 52 → a ≠ b → (TX7 a).2.1 ≠ (TX7 b).2.1 := by decide +kernel
theorem tyX7_ok : ∀ k, k < 52 → parseFieldDescriptor (TX7 k).2.2.1 = some (tyX7 k) := by decide +kernel
abbrev cX7_init : ByteArray := prog_9_method_1_code
def yX7_init : MethodName := ⟨RX7, "<init>", "()V"⟩
abbrev cX7_floor : ByteArray := prog_9_method_2_code
def yX7_floor : MethodName := ⟨RX7, "floor", "(JJ)J"⟩
abbrev cX7_ceil : ByteArray := prog_9_method_3_code
def yX7_ceil : MethodName := ⟨RX7, "ceil", "(JJ)J"⟩
abbrev cX7_in : ByteArray := prog_9_method_4_code
def yX7_in : MethodName := ⟨RX7, "in", "(JJJ)Z"⟩
abbrev cX7_isMember : ByteArray := prog_9_method_5_code
def yX7_isMember : MethodName := ⟨RX7, "isMember", "(I)Z"⟩
abbrev cX7_go : ByteArray := prog_9_method_6_code
def yX7_go : MethodName := ⟨RX7, "go", "(I)J"⟩
abbrev cX7_member : ByteArray := prog_9_method_7_code
def yX7_member : MethodName := ⟨RX7, "member", "(III)J"⟩
abbrev cX7_rate : ByteArray := prog_9_method_8_code
def yX7_rate : MethodName := ⟨RX7, "rate", "(III)J"⟩
abbrev cX7_lie : ByteArray := prog_9_method_9_code
def yX7_lie : MethodName := ⟨RX7, "lie", "(IJJ)J"⟩
abbrev cX7_rest : ByteArray := prog_9_method_10_code
def yX7_rest : MethodName := ⟨RX7, "rest", "(IZ)J"⟩
abbrev cX7_counterOf : ByteArray := prog_9_method_11_code
def yX7_counterOf : MethodName := ⟨RX7, "counterOf", "(I)J"⟩
abbrev cX7_counter : ByteArray := prog_9_method_12_code
def yX7_counter : MethodName := ⟨RX7, "counter", "(I)J"⟩
abbrev cX7_atLeast : ByteArray := prog_9_method_13_code
def yX7_atLeast : MethodName := ⟨RX7, "atLeast", "(IJ)J"⟩
abbrev cX7_atMost : ByteArray := prog_9_method_14_code
def yX7_atMost : MethodName := ⟨RX7, "atMost", "(IJ)J"⟩
abbrev cX7_lowOf : ByteArray := prog_9_method_15_code
def yX7_lowOf : MethodName := ⟨RX7, "lowOf", "(I)J"⟩
abbrev cX7_highOf : ByteArray := prog_9_method_16_code
def yX7_highOf : MethodName := ⟨RX7, "highOf", "(I)J"⟩
abbrev cX7_heardLowOf : ByteArray := prog_9_method_17_code
def yX7_heardLowOf : MethodName := ⟨RX7, "heardLowOf", "(II)J"⟩
abbrev cX7_heardHighOf : ByteArray := prog_9_method_18_code
def yX7_heardHighOf : MethodName := ⟨RX7, "heardHighOf", "(II)J"⟩
abbrev cX7_heardMany : ByteArray := prog_9_method_19_code
def yX7_heardMany : MethodName := ⟨RX7, "heardMany", "(I)I"⟩
abbrev cX7_of : ByteArray := prog_9_method_20_code
def yX7_of : MethodName := ⟨RX7, "of", "(II)J"⟩
abbrev cX7_ask : ByteArray := prog_9_method_21_code
def yX7_ask : MethodName := ⟨RX7, "ask", "(II)J"⟩
abbrev cX7_isUnderWay : ByteArray := prog_9_method_22_code
def yX7_isUnderWay : MethodName := ⟨RX7, "isUnderWay", "(I)Z"⟩
abbrev cX7_deliver : ByteArray := prog_9_method_23_code
def yX7_deliver : MethodName := ⟨RX7, "deliver", "(I)J"⟩
abbrev cX7_lose : ByteArray := prog_9_method_24_code
def yX7_lose : MethodName := ⟨RX7, "lose", "(I)J"⟩
abbrev cX7_twice : ByteArray := prog_9_method_25_code
def yX7_twice : MethodName := ⟨RX7, "twice", "(I)J"⟩
abbrev cX7_letter : ByteArray := prog_9_method_26_code
def yX7_letter : MethodName := ⟨RX7, "letter", "(II)J"⟩
abbrev cX7_heard : ByteArray := prog_9_method_27_code
def yX7_heard : MethodName := ⟨RX7, "heard", "(III)J"⟩
abbrev cX7_gather : ByteArray := prog_9_method_28_code
def yX7_gather : MethodName := ⟨RX7, "gather", "(I)V"⟩
abbrev cX7_votesFor : ByteArray := prog_9_method_29_code
def yX7_votesFor : MethodName := ⟨RX7, "votesFor", "(J)I"⟩
abbrev cX7_votes : ByteArray := prog_9_method_30_code
def yX7_votes : MethodName := ⟨RX7, "votes", "(IJ)J"⟩
abbrev cX7_findCouncil : ByteArray := prog_9_method_31_code
def yX7_findCouncil : MethodName := ⟨RX7, "findCouncil", "(I)Z"⟩
abbrev cX7_council : ByteArray := prog_9_method_32_code
def yX7_council : MethodName := ⟨RX7, "council", "(III)J"⟩
abbrev cX7_meet : ByteArray := prog_9_method_33_code
def yX7_meet : MethodName := ⟨RX7, "meet", "(II)J"⟩
abbrev cX7_lead : ByteArray := prog_9_method_34_code
def yX7_lead : MethodName := ⟨RX7, "lead", "(II)J"⟩
abbrev cX7_stamp : ByteArray := prog_9_method_35_code
def yX7_stamp : MethodName := ⟨RX7, "stamp", "(I)J"⟩
abbrev cX7_isStamp : ByteArray := prog_9_method_36_code
def yX7_isStamp : MethodName := ⟨RX7, "isStamp", "(I)Z"⟩
abbrev cX7_given : ByteArray := prog_9_method_37_code
def yX7_given : MethodName := ⟨RX7, "given", "(II)J"⟩
abbrev cX7_ahead : ByteArray := prog_9_method_38_code
def yX7_ahead : MethodName := ⟨RX7, "ahead", "(II)J"⟩
abbrev cX7_wait : ByteArray := prog_9_method_39_code
def yX7_wait : MethodName := ⟨RX7, "wait", "(I)J"⟩
abbrev cX7_event : ByteArray := prog_9_method_40_code
def yX7_event : MethodName := ⟨RX7, "event", "(I)J"⟩
abbrev cX7_isEvent : ByteArray := prog_9_method_41_code
def yX7_isEvent : MethodName := ⟨RX7, "isEvent", "(I)Z"⟩
abbrev cX7_link : ByteArray := prog_9_method_42_code
def yX7_link : MethodName := ⟨RX7, "link", "(II)J"⟩
abbrev cX7_findLongest : ByteArray := prog_9_method_43_code
def yX7_findLongest : MethodName := ⟨RX7, "findLongest", "()Z"⟩
abbrev cX7_mend : ByteArray := prog_9_method_44_code
def yX7_mend : MethodName := ⟨RX7, "mend", "()J"⟩
abbrev cX7_findTimes : ByteArray := prog_9_method_45_code
def yX7_findTimes : MethodName := ⟨RX7, "findTimes", "()Z"⟩
abbrev cX7_order : ByteArray := prog_9_method_46_code
def yX7_order : MethodName := ⟨RX7, "order", "(I)J"⟩
abbrev cX7_time : ByteArray := prog_9_method_47_code
def yX7_time : MethodName := ⟨RX7, "time", "(I)J"⟩
abbrev cX7_ringFrom : ByteArray := prog_9_method_48_code
def yX7_ringFrom : MethodName := ⟨RX7, "ringFrom", "(I)I"⟩
abbrev cX7_ring : ByteArray := prog_9_method_49_code
def yX7_ring : MethodName := ⟨RX7, "ring", "(I)J"⟩
abbrev cX7_count : ByteArray := prog_9_method_50_code
def yX7_count : MethodName := ⟨RX7, "count", "(I)J"⟩
def RJ9 : String := "java/lang/Math"
def TJ9 : u_T := fun k => match k with
  | _ => ("", "", "", false)
def tyJ9 : Nat → FieldType := fun k => match k with
  | _ => .int
abbrev wsJ90 : List Cond := u_ws RJ9 TJ9 0
theorem nmJ9 : ∀ a, a < 0 → ∀ b, b < 0 → a ≠ b → (TJ9 a).2.1 ≠ (TJ9 b).2.1 := by decide +kernel
theorem tyJ9_ok : ∀ k, k < 0 → parseFieldDescriptor (TJ9 k).2.2.1 = some (tyJ9 k) := by decide +kernel
abbrev cJ9_floorDiv_f86c9 : ByteArray := prog_10_method_49_code
def yJ9_floorDiv_f86c9 : MethodName := ⟨RJ9, "floorDiv", "(JJ)J"⟩
abbrev cJ9_abs_067f4 : ByteArray := prog_10_method_61_code
def yJ9_abs_067f4 : MethodName := ⟨RJ9, "abs", "(J)J"⟩
abbrev cJ9_max_f86c9 : ByteArray := prog_10_method_66_code
def yJ9_max_f86c9 : MethodName := ⟨RJ9, "max", "(JJ)J"⟩
abbrev cJ9_min_f86c9 : ByteArray := prog_10_method_70_code
def yJ9_min_f86c9 : MethodName := ⟨RJ9, "min", "(JJ)J"⟩
def RL : String := "ClockCouncilLaw"
abbrev cL_law : ByteArray := code
def yL_law : MethodName := ⟨RL, "law", "([I)Z"⟩
def wsJ9_floorDiv_f86c9 : List Cond := .code yJ9_floorDiv_f86c9 cJ9_floorDiv_f86c9 6 (some .long) :: ([])
def wsJ9_abs_067f4 : List Cond := .code yJ9_abs_067f4 cJ9_abs_067f4 2 (some .long) :: ([])
def wsJ9_max_f86c9 : List Cond := .code yJ9_max_f86c9 cJ9_max_f86c9 4 (some .long) :: ([])
def wsJ9_min_f86c9 : List Cond := .code yJ9_min_f86c9 cJ9_min_f86c9 4 (some .long) :: ([])
theorem inJ9 : ∀ w ∈ wsJ90, w ∈ lw_tbl := by decide +kernel
abbrev vwCl : List vw_C := [(RX0, TX0, 4), (RX1, TX1, 7), (RX2, TX2, 16), (RX3, TX3, 14), (RX4, TX4, 4), (RX5, TX5, 4), (RX6, TX6, 9), (RX7, TX7, 52)]
end
section
theorem dJ9_floorDiv_f86c9_0 : decode cJ9_floorDiv_f86c9 0 = .ok (.lload_n 0, 1) := by decide +kernel
theorem dJ9_floorDiv_f86c9_1 : decode cJ9_floorDiv_f86c9 1 = .ok (.lload_n 2, 1) := by decide +kernel
theorem dJ9_floorDiv_f86c9_2 : decode cJ9_floorDiv_f86c9 2 = .ok (.ldiv, 1) := by decide +kernel
theorem dJ9_floorDiv_f86c9_3 : decode cJ9_floorDiv_f86c9 3 = .ok (.lstore 4, 2) := by decide +kernel
theorem dJ9_floorDiv_f86c9_5 : decode cJ9_floorDiv_f86c9 5 = .ok (.lload_n 0, 1) := by decide +kernel
theorem dJ9_floorDiv_f86c9_6 : decode cJ9_floorDiv_f86c9 6 = .ok (.lload_n 2, 1) := by decide +kernel
theorem dJ9_floorDiv_f86c9_7 : decode cJ9_floorDiv_f86c9 7 = .ok (.lxor, 1) := by decide +kernel
theorem dJ9_floorDiv_f86c9_8 : decode cJ9_floorDiv_f86c9 8 = .ok (.lconst 0, 1) := by decide +kernel
theorem dJ9_floorDiv_f86c9_9 : decode cJ9_floorDiv_f86c9 9 = .ok (.lcmp, 1) := by decide +kernel
theorem dJ9_floorDiv_f86c9_10 : decode cJ9_floorDiv_f86c9 10 = .ok (.ifCond .ge 17, 3) := by decide +kernel
theorem dJ9_floorDiv_f86c9_13 : decode cJ9_floorDiv_f86c9 13 = .ok (.lload 4, 2) := by decide +kernel
theorem dJ9_floorDiv_f86c9_15 : decode cJ9_floorDiv_f86c9 15 = .ok (.lload_n 2, 1) := by decide +kernel
theorem dJ9_floorDiv_f86c9_16 : decode cJ9_floorDiv_f86c9 16 = .ok (.lmul, 1) := by decide +kernel
theorem dJ9_floorDiv_f86c9_17 : decode cJ9_floorDiv_f86c9 17 = .ok (.lload_n 0, 1) := by decide +kernel
theorem dJ9_floorDiv_f86c9_18 : decode cJ9_floorDiv_f86c9 18 = .ok (.lcmp, 1) := by decide +kernel
theorem dJ9_floorDiv_f86c9_19 : decode cJ9_floorDiv_f86c9 19 = .ok (.ifCond .eq 8, 3) := by decide +kernel
theorem dJ9_floorDiv_f86c9_22 : decode cJ9_floorDiv_f86c9 22 = .ok (.lload 4, 2) := by decide +kernel
theorem dJ9_floorDiv_f86c9_24 : decode cJ9_floorDiv_f86c9 24 = .ok (.lconst 1, 1) := by decide +kernel
theorem dJ9_floorDiv_f86c9_25 : decode cJ9_floorDiv_f86c9 25 = .ok (.lsub, 1) := by decide +kernel
theorem dJ9_floorDiv_f86c9_26 : decode cJ9_floorDiv_f86c9 26 = .ok (.lreturn, 1) := by decide +kernel
theorem dJ9_floorDiv_f86c9_27 : decode cJ9_floorDiv_f86c9 27 = .ok (.lload 4, 2) := by decide +kernel
theorem dJ9_floorDiv_f86c9_29 : decode cJ9_floorDiv_f86c9 29 = .ok (.lreturn, 1) := by decide +kernel
theorem dJ9_abs_067f4_0 : decode cJ9_abs_067f4 0 = .ok (.lload_n 0, 1) := by decide +kernel
theorem dJ9_abs_067f4_1 : decode cJ9_abs_067f4 1 = .ok (.lconst 0, 1) := by decide +kernel
theorem dJ9_abs_067f4_2 : decode cJ9_abs_067f4 2 = .ok (.lcmp, 1) := by decide +kernel
theorem dJ9_abs_067f4_3 : decode cJ9_abs_067f4 3 = .ok (.ifCond .ge 8, 3) := by decide +kernel
theorem dJ9_abs_067f4_6 : decode cJ9_abs_067f4 6 = .ok (.lload_n 0, 1) := by decide +kernel
theorem dJ9_abs_067f4_7 : decode cJ9_abs_067f4 7 = .ok (.lneg, 1) := by decide +kernel
theorem dJ9_abs_067f4_8 : decode cJ9_abs_067f4 8 = .ok (.goto 4, 3) := by decide +kernel
theorem dJ9_abs_067f4_11 : decode cJ9_abs_067f4 11 = .ok (.lload_n 0, 1) := by decide +kernel
theorem dJ9_abs_067f4_12 : decode cJ9_abs_067f4 12 = .ok (.lreturn, 1) := by decide +kernel
theorem dJ9_max_f86c9_0 : decode cJ9_max_f86c9 0 = .ok (.lload_n 0, 1) := by decide +kernel
theorem dJ9_max_f86c9_1 : decode cJ9_max_f86c9 1 = .ok (.lload_n 2, 1) := by decide +kernel
theorem dJ9_max_f86c9_2 : decode cJ9_max_f86c9 2 = .ok (.lcmp, 1) := by decide +kernel
theorem dJ9_max_f86c9_3 : decode cJ9_max_f86c9 3 = .ok (.ifCond .lt 7, 3) := by decide +kernel
theorem dJ9_max_f86c9_6 : decode cJ9_max_f86c9 6 = .ok (.lload_n 0, 1) := by decide +kernel
theorem dJ9_max_f86c9_7 : decode cJ9_max_f86c9 7 = .ok (.goto 4, 3) := by decide +kernel
theorem dJ9_max_f86c9_10 : decode cJ9_max_f86c9 10 = .ok (.lload_n 2, 1) := by decide +kernel
theorem dJ9_max_f86c9_11 : decode cJ9_max_f86c9 11 = .ok (.lreturn, 1) := by decide +kernel
theorem dJ9_min_f86c9_0 : decode cJ9_min_f86c9 0 = .ok (.lload_n 0, 1) := by decide +kernel
theorem dJ9_min_f86c9_1 : decode cJ9_min_f86c9 1 = .ok (.lload_n 2, 1) := by decide +kernel
theorem dJ9_min_f86c9_2 : decode cJ9_min_f86c9 2 = .ok (.lcmp, 1) := by decide +kernel
theorem dJ9_min_f86c9_3 : decode cJ9_min_f86c9 3 = .ok (.ifCond .gt 7, 3) := by decide +kernel
theorem dJ9_min_f86c9_6 : decode cJ9_min_f86c9 6 = .ok (.lload_n 0, 1) := by decide +kernel
theorem dJ9_min_f86c9_7 : decode cJ9_min_f86c9 7 = .ok (.goto 4, 3) := by decide +kernel
theorem dJ9_min_f86c9_10 : decode cJ9_min_f86c9 10 = .ok (.lload_n 2, 1) := by decide +kernel
theorem dJ9_min_f86c9_11 : decode cJ9_min_f86c9 11 = .ok (.lreturn, 1) := by decide +kernel
end
section
theorem dL_law_0 : decode cL_law 0 = .ok (.new 7, 3) := by decide +kernel
theorem dL_law_3 : decode cL_law 3 = .ok (.dup, 1) := by decide +kernel
theorem dL_law_4 : decode cL_law 4 = .ok (.invokespecial 9, 3) := by decide +kernel
theorem dL_law_7 : decode cL_law 7 = .ok (.astore_n 1, 1) := by decide +kernel
theorem dL_law_8 : decode cL_law 8 = .ok (.new 10, 3) := by decide +kernel
theorem dL_law_11 : decode cL_law 11 = .ok (.dup, 1) := by decide +kernel
theorem dL_law_12 : decode cL_law 12 = .ok (.invokespecial 12, 3) := by decide +kernel
theorem dL_law_15 : decode cL_law 15 = .ok (.astore_n 2, 1) := by decide +kernel
theorem dL_law_16 : decode cL_law 16 = .ok (.iconst 0, 1) := by decide +kernel
theorem dL_law_17 : decode cL_law 17 = .ok (.istore_n 3, 1) := by decide +kernel
theorem dL_law_18 : decode cL_law 18 = .ok (.iload_n 3, 1) := by decide +kernel
theorem dL_law_19 : decode cL_law 19 = .ok (.aload_n 0, 1) := by decide +kernel
theorem dL_law_20 : decode cL_law 20 = .ok (.arraylength, 1) := by decide +kernel
theorem dL_law_21 : decode cL_law 21 = .ok (.bipush 6, 2) := by decide +kernel
theorem dL_law_23 : decode cL_law 23 = .ok (.isub, 1) := by decide +kernel
theorem dL_law_24 : decode cL_law 24 = .ok (.if_icmp .gt 1110, 3) := by decide +kernel
theorem dL_law_27 : decode cL_law 27 = .ok (.aload_n 0, 1) := by decide +kernel
theorem dL_law_28 : decode cL_law 28 = .ok (.iload_n 3, 1) := by decide +kernel
theorem dL_law_29 : decode cL_law 29 = .ok (.iaload, 1) := by decide +kernel
theorem dL_law_30 : decode cL_law 30 = .ok (.bipush 31, 2) := by decide +kernel
theorem dL_law_32 : decode cL_law 32 = .ok (.iand, 1) := by decide +kernel
theorem dL_law_33 : decode cL_law 33 = .ok (.tableswitch 1095 0 27 #[127, 151, 195, 239, 343, 393, 417, 451, 485, 509, 533, 557, 591, 635, 699, 743, 777, 811, 835, 869, 903, 927, 951, 985, 999, 1023, 1047, 1071], 127) := by decide +kernel
theorem dL_law_160 : decode cL_law 160 = .ok (.aload_n 1, 1) := by decide +kernel
theorem dL_law_161 : decode cL_law 161 = .ok (.aload_n 0, 1) := by decide +kernel
theorem dL_law_162 : decode cL_law 162 = .ok (.iload_n 3, 1) := by decide +kernel
theorem dL_law_163 : decode cL_law 163 = .ok (.iconst 1, 1) := by decide +kernel
theorem dL_law_164 : decode cL_law 164 = .ok (.iadd, 1) := by decide +kernel
theorem dL_law_165 : decode cL_law 165 = .ok (.iaload, 1) := by decide +kernel
theorem dL_law_166 : decode cL_law 166 = .ok (.invokevirtual 13, 3) := by decide +kernel
theorem dL_law_169 : decode cL_law 169 = .ok (.aload_n 2, 1) := by decide +kernel
theorem dL_law_170 : decode cL_law 170 = .ok (.aload_n 0, 1) := by decide +kernel
theorem dL_law_171 : decode cL_law 171 = .ok (.iload_n 3, 1) := by decide +kernel
theorem dL_law_172 : decode cL_law 172 = .ok (.iconst 1, 1) := by decide +kernel
theorem dL_law_173 : decode cL_law 173 = .ok (.iadd, 1) := by decide +kernel
theorem dL_law_174 : decode cL_law 174 = .ok (.iaload, 1) := by decide +kernel
theorem dL_law_175 : decode cL_law 175 = .ok (.invokevirtual 17, 3) := by decide +kernel
theorem dL_law_178 : decode cL_law 178 = .ok (.lcmp, 1) := by decide +kernel
theorem dL_law_179 : decode cL_law 179 = .ok (.ifCond .eq 949, 3) := by decide +kernel
theorem dL_law_182 : decode cL_law 182 = .ok (.iconst 0, 1) := by decide +kernel
theorem dL_law_183 : decode cL_law 183 = .ok (.ireturn, 1) := by decide +kernel
theorem dL_law_184 : decode cL_law 184 = .ok (.aload_n 1, 1) := by decide +kernel
theorem dL_law_185 : decode cL_law 185 = .ok (.aload_n 0, 1) := by decide +kernel
theorem dL_law_186 : decode cL_law 186 = .ok (.iload_n 3, 1) := by decide +kernel
theorem dL_law_187 : decode cL_law 187 = .ok (.iconst 1, 1) := by decide +kernel
theorem dL_law_188 : decode cL_law 188 = .ok (.iadd, 1) := by decide +kernel
theorem dL_law_189 : decode cL_law 189 = .ok (.iaload, 1) := by decide +kernel
theorem dL_law_190 : decode cL_law 190 = .ok (.aload_n 0, 1) := by decide +kernel
theorem dL_law_191 : decode cL_law 191 = .ok (.iload_n 3, 1) := by decide +kernel
theorem dL_law_192 : decode cL_law 192 = .ok (.iconst 2, 1) := by decide +kernel
theorem dL_law_193 : decode cL_law 193 = .ok (.iadd, 1) := by decide +kernel
theorem dL_law_194 : decode cL_law 194 = .ok (.iaload, 1) := by decide +kernel
theorem dL_law_195 : decode cL_law 195 = .ok (.aload_n 0, 1) := by decide +kernel
theorem dL_law_196 : decode cL_law 196 = .ok (.iload_n 3, 1) := by decide +kernel
theorem dL_law_197 : decode cL_law 197 = .ok (.iconst 3, 1) := by decide +kernel
theorem dL_law_198 : decode cL_law 198 = .ok (.iadd, 1) := by decide +kernel
theorem dL_law_199 : decode cL_law 199 = .ok (.iaload, 1) := by decide +kernel
theorem dL_law_200 : decode cL_law 200 = .ok (.invokevirtual 18, 3) := by decide +kernel
theorem dL_law_203 : decode cL_law 203 = .ok (.aload_n 2, 1) := by decide +kernel
theorem dL_law_204 : decode cL_law 204 = .ok (.aload_n 0, 1) := by decide +kernel
theorem dL_law_205 : decode cL_law 205 = .ok (.iload_n 3, 1) := by decide +kernel
theorem dL_law_206 : decode cL_law 206 = .ok (.iconst 1, 1) := by decide +kernel
theorem dL_law_207 : decode cL_law 207 = .ok (.iadd, 1) := by decide +kernel
theorem dL_law_208 : decode cL_law 208 = .ok (.iaload, 1) := by decide +kernel
theorem dL_law_209 : decode cL_law 209 = .ok (.aload_n 0, 1) := by decide +kernel
theorem dL_law_210 : decode cL_law 210 = .ok (.iload_n 3, 1) := by decide +kernel
theorem dL_law_211 : decode cL_law 211 = .ok (.iconst 2, 1) := by decide +kernel
theorem dL_law_212 : decode cL_law 212 = .ok (.iadd, 1) := by decide +kernel
theorem dL_law_213 : decode cL_law 213 = .ok (.iaload, 1) := by decide +kernel
theorem dL_law_214 : decode cL_law 214 = .ok (.aload_n 0, 1) := by decide +kernel
theorem dL_law_215 : decode cL_law 215 = .ok (.iload_n 3, 1) := by decide +kernel
theorem dL_law_216 : decode cL_law 216 = .ok (.iconst 3, 1) := by decide +kernel
theorem dL_law_217 : decode cL_law 217 = .ok (.iadd, 1) := by decide +kernel
theorem dL_law_218 : decode cL_law 218 = .ok (.iaload, 1) := by decide +kernel
theorem dL_law_219 : decode cL_law 219 = .ok (.invokevirtual 22, 3) := by decide +kernel
theorem dL_law_222 : decode cL_law 222 = .ok (.lcmp, 1) := by decide +kernel
theorem dL_law_223 : decode cL_law 223 = .ok (.ifCond .eq 905, 3) := by decide +kernel
theorem dL_law_226 : decode cL_law 226 = .ok (.iconst 0, 1) := by decide +kernel
theorem dL_law_227 : decode cL_law 227 = .ok (.ireturn, 1) := by decide +kernel
theorem dL_law_228 : decode cL_law 228 = .ok (.aload_n 1, 1) := by decide +kernel
theorem dL_law_229 : decode cL_law 229 = .ok (.aload_n 0, 1) := by decide +kernel
theorem dL_law_230 : decode cL_law 230 = .ok (.iload_n 3, 1) := by decide +kernel
theorem dL_law_231 : decode cL_law 231 = .ok (.iconst 1, 1) := by decide +kernel
theorem dL_law_232 : decode cL_law 232 = .ok (.iadd, 1) := by decide +kernel
theorem dL_law_233 : decode cL_law 233 = .ok (.iaload, 1) := by decide +kernel
theorem dL_law_234 : decode cL_law 234 = .ok (.aload_n 0, 1) := by decide +kernel
theorem dL_law_235 : decode cL_law 235 = .ok (.iload_n 3, 1) := by decide +kernel
theorem dL_law_236 : decode cL_law 236 = .ok (.iconst 2, 1) := by decide +kernel
theorem dL_law_237 : decode cL_law 237 = .ok (.iadd, 1) := by decide +kernel
theorem dL_law_238 : decode cL_law 238 = .ok (.iaload, 1) := by decide +kernel
theorem dL_law_239 : decode cL_law 239 = .ok (.aload_n 0, 1) := by decide +kernel
theorem dL_law_240 : decode cL_law 240 = .ok (.iload_n 3, 1) := by decide +kernel
theorem dL_law_241 : decode cL_law 241 = .ok (.iconst 3, 1) := by decide +kernel
theorem dL_law_242 : decode cL_law 242 = .ok (.iadd, 1) := by decide +kernel
theorem dL_law_243 : decode cL_law 243 = .ok (.iaload, 1) := by decide +kernel
theorem dL_law_244 : decode cL_law 244 = .ok (.invokevirtual 23, 3) := by decide +kernel
theorem dL_law_247 : decode cL_law 247 = .ok (.aload_n 2, 1) := by decide +kernel
theorem dL_law_248 : decode cL_law 248 = .ok (.aload_n 0, 1) := by decide +kernel
theorem dL_law_249 : decode cL_law 249 = .ok (.iload_n 3, 1) := by decide +kernel
theorem dL_law_250 : decode cL_law 250 = .ok (.iconst 1, 1) := by decide +kernel
theorem dL_law_251 : decode cL_law 251 = .ok (.iadd, 1) := by decide +kernel
theorem dL_law_252 : decode cL_law 252 = .ok (.iaload, 1) := by decide +kernel
theorem dL_law_253 : decode cL_law 253 = .ok (.aload_n 0, 1) := by decide +kernel
theorem dL_law_254 : decode cL_law 254 = .ok (.iload_n 3, 1) := by decide +kernel
theorem dL_law_255 : decode cL_law 255 = .ok (.iconst 2, 1) := by decide +kernel
theorem dL_law_256 : decode cL_law 256 = .ok (.iadd, 1) := by decide +kernel
theorem dL_law_257 : decode cL_law 257 = .ok (.iaload, 1) := by decide +kernel
theorem dL_law_258 : decode cL_law 258 = .ok (.aload_n 0, 1) := by decide +kernel
theorem dL_law_259 : decode cL_law 259 = .ok (.iload_n 3, 1) := by decide +kernel
theorem dL_law_260 : decode cL_law 260 = .ok (.iconst 3, 1) := by decide +kernel
theorem dL_law_261 : decode cL_law 261 = .ok (.iadd, 1) := by decide +kernel
theorem dL_law_262 : decode cL_law 262 = .ok (.iaload, 1) := by decide +kernel
theorem dL_law_263 : decode cL_law 263 = .ok (.invokevirtual 26, 3) := by decide +kernel
theorem dL_law_266 : decode cL_law 266 = .ok (.lcmp, 1) := by decide +kernel
theorem dL_law_267 : decode cL_law 267 = .ok (.ifCond .eq 861, 3) := by decide +kernel
theorem dL_law_270 : decode cL_law 270 = .ok (.iconst 0, 1) := by decide +kernel
theorem dL_law_271 : decode cL_law 271 = .ok (.ireturn, 1) := by decide +kernel
theorem dL_law_272 : decode cL_law 272 = .ok (.aload_n 1, 1) := by decide +kernel
theorem dL_law_273 : decode cL_law 273 = .ok (.aload_n 0, 1) := by decide +kernel
theorem dL_law_274 : decode cL_law 274 = .ok (.iload_n 3, 1) := by decide +kernel
theorem dL_law_275 : decode cL_law 275 = .ok (.iconst 1, 1) := by decide +kernel
theorem dL_law_276 : decode cL_law 276 = .ok (.iadd, 1) := by decide +kernel
theorem dL_law_277 : decode cL_law 277 = .ok (.iaload, 1) := by decide +kernel
theorem dL_law_278 : decode cL_law 278 = .ok (.aload_n 0, 1) := by decide +kernel
theorem dL_law_279 : decode cL_law 279 = .ok (.iload_n 3, 1) := by decide +kernel
theorem dL_law_280 : decode cL_law 280 = .ok (.iconst 2, 1) := by decide +kernel
theorem dL_law_281 : decode cL_law 281 = .ok (.iadd, 1) := by decide +kernel
theorem dL_law_282 : decode cL_law 282 = .ok (.iaload, 1) := by decide +kernel
theorem dL_law_283 : decode cL_law 283 = .ok (.i2l, 1) := by decide +kernel
theorem dL_law_284 : decode cL_law 284 = .ok (.bipush 32, 2) := by decide +kernel
theorem dL_law_286 : decode cL_law 286 = .ok (.lshl, 1) := by decide +kernel
theorem dL_law_287 : decode cL_law 287 = .ok (.aload_n 0, 1) := by decide +kernel
theorem dL_law_288 : decode cL_law 288 = .ok (.iload_n 3, 1) := by decide +kernel
theorem dL_law_289 : decode cL_law 289 = .ok (.iconst 3, 1) := by decide +kernel
theorem dL_law_290 : decode cL_law 290 = .ok (.iadd, 1) := by decide +kernel
theorem dL_law_291 : decode cL_law 291 = .ok (.iaload, 1) := by decide +kernel
theorem dL_law_292 : decode cL_law 292 = .ok (.i2l, 1) := by decide +kernel
theorem dL_law_293 : decode cL_law 293 = .ok (.ldc2_w 27, 3) := by decide +kernel
theorem dL_law_296 : decode cL_law 296 = .ok (.land, 1) := by decide +kernel
theorem dL_law_297 : decode cL_law 297 = .ok (.lor, 1) := by decide +kernel
theorem dL_law_298 : decode cL_law 298 = .ok (.aload_n 0, 1) := by decide +kernel
theorem dL_law_299 : decode cL_law 299 = .ok (.iload_n 3, 1) := by decide +kernel
theorem dL_law_300 : decode cL_law 300 = .ok (.iconst 4, 1) := by decide +kernel
theorem dL_law_301 : decode cL_law 301 = .ok (.iadd, 1) := by decide +kernel
theorem dL_law_302 : decode cL_law 302 = .ok (.iaload, 1) := by decide +kernel
theorem dL_law_303 : decode cL_law 303 = .ok (.i2l, 1) := by decide +kernel
theorem dL_law_304 : decode cL_law 304 = .ok (.bipush 32, 2) := by decide +kernel
theorem dL_law_306 : decode cL_law 306 = .ok (.lshl, 1) := by decide +kernel
theorem dL_law_307 : decode cL_law 307 = .ok (.aload_n 0, 1) := by decide +kernel
theorem dL_law_308 : decode cL_law 308 = .ok (.iload_n 3, 1) := by decide +kernel
theorem dL_law_309 : decode cL_law 309 = .ok (.iconst 5, 1) := by decide +kernel
theorem dL_law_310 : decode cL_law 310 = .ok (.iadd, 1) := by decide +kernel
theorem dL_law_311 : decode cL_law 311 = .ok (.iaload, 1) := by decide +kernel
theorem dL_law_312 : decode cL_law 312 = .ok (.i2l, 1) := by decide +kernel
theorem dL_law_313 : decode cL_law 313 = .ok (.ldc2_w 27, 3) := by decide +kernel
theorem dL_law_316 : decode cL_law 316 = .ok (.land, 1) := by decide +kernel
theorem dL_law_317 : decode cL_law 317 = .ok (.lor, 1) := by decide +kernel
theorem dL_law_318 : decode cL_law 318 = .ok (.invokevirtual 29, 3) := by decide +kernel
theorem dL_law_321 : decode cL_law 321 = .ok (.aload_n 2, 1) := by decide +kernel
theorem dL_law_322 : decode cL_law 322 = .ok (.aload_n 0, 1) := by decide +kernel
theorem dL_law_323 : decode cL_law 323 = .ok (.iload_n 3, 1) := by decide +kernel
theorem dL_law_324 : decode cL_law 324 = .ok (.iconst 1, 1) := by decide +kernel
theorem dL_law_325 : decode cL_law 325 = .ok (.iadd, 1) := by decide +kernel
theorem dL_law_326 : decode cL_law 326 = .ok (.iaload, 1) := by decide +kernel
theorem dL_law_327 : decode cL_law 327 = .ok (.aload_n 0, 1) := by decide +kernel
theorem dL_law_328 : decode cL_law 328 = .ok (.iload_n 3, 1) := by decide +kernel
theorem dL_law_329 : decode cL_law 329 = .ok (.iconst 2, 1) := by decide +kernel
theorem dL_law_330 : decode cL_law 330 = .ok (.iadd, 1) := by decide +kernel
theorem dL_law_331 : decode cL_law 331 = .ok (.iaload, 1) := by decide +kernel
theorem dL_law_332 : decode cL_law 332 = .ok (.i2l, 1) := by decide +kernel
theorem dL_law_333 : decode cL_law 333 = .ok (.bipush 32, 2) := by decide +kernel
theorem dL_law_335 : decode cL_law 335 = .ok (.lshl, 1) := by decide +kernel
theorem dL_law_336 : decode cL_law 336 = .ok (.aload_n 0, 1) := by decide +kernel
theorem dL_law_337 : decode cL_law 337 = .ok (.iload_n 3, 1) := by decide +kernel
theorem dL_law_338 : decode cL_law 338 = .ok (.iconst 3, 1) := by decide +kernel
theorem dL_law_339 : decode cL_law 339 = .ok (.iadd, 1) := by decide +kernel
theorem dL_law_340 : decode cL_law 340 = .ok (.iaload, 1) := by decide +kernel
theorem dL_law_341 : decode cL_law 341 = .ok (.i2l, 1) := by decide +kernel
theorem dL_law_342 : decode cL_law 342 = .ok (.ldc2_w 27, 3) := by decide +kernel
theorem dL_law_345 : decode cL_law 345 = .ok (.land, 1) := by decide +kernel
theorem dL_law_346 : decode cL_law 346 = .ok (.lor, 1) := by decide +kernel
theorem dL_law_347 : decode cL_law 347 = .ok (.aload_n 0, 1) := by decide +kernel
theorem dL_law_348 : decode cL_law 348 = .ok (.iload_n 3, 1) := by decide +kernel
theorem dL_law_349 : decode cL_law 349 = .ok (.iconst 4, 1) := by decide +kernel
theorem dL_law_350 : decode cL_law 350 = .ok (.iadd, 1) := by decide +kernel
theorem dL_law_351 : decode cL_law 351 = .ok (.iaload, 1) := by decide +kernel
theorem dL_law_352 : decode cL_law 352 = .ok (.i2l, 1) := by decide +kernel
theorem dL_law_353 : decode cL_law 353 = .ok (.bipush 32, 2) := by decide +kernel
theorem dL_law_355 : decode cL_law 355 = .ok (.lshl, 1) := by decide +kernel
theorem dL_law_356 : decode cL_law 356 = .ok (.aload_n 0, 1) := by decide +kernel
theorem dL_law_357 : decode cL_law 357 = .ok (.iload_n 3, 1) := by decide +kernel
theorem dL_law_358 : decode cL_law 358 = .ok (.iconst 5, 1) := by decide +kernel
theorem dL_law_359 : decode cL_law 359 = .ok (.iadd, 1) := by decide +kernel
theorem dL_law_360 : decode cL_law 360 = .ok (.iaload, 1) := by decide +kernel
theorem dL_law_361 : decode cL_law 361 = .ok (.i2l, 1) := by decide +kernel
theorem dL_law_362 : decode cL_law 362 = .ok (.ldc2_w 27, 3) := by decide +kernel
theorem dL_law_365 : decode cL_law 365 = .ok (.land, 1) := by decide +kernel
theorem dL_law_366 : decode cL_law 366 = .ok (.lor, 1) := by decide +kernel
theorem dL_law_367 : decode cL_law 367 = .ok (.invokevirtual 33, 3) := by decide +kernel
theorem dL_law_370 : decode cL_law 370 = .ok (.lcmp, 1) := by decide +kernel
theorem dL_law_371 : decode cL_law 371 = .ok (.ifCond .eq 757, 3) := by decide +kernel
theorem dL_law_374 : decode cL_law 374 = .ok (.iconst 0, 1) := by decide +kernel
theorem dL_law_375 : decode cL_law 375 = .ok (.ireturn, 1) := by decide +kernel
theorem dL_law_376 : decode cL_law 376 = .ok (.aload_n 1, 1) := by decide +kernel
theorem dL_law_377 : decode cL_law 377 = .ok (.aload_n 0, 1) := by decide +kernel
theorem dL_law_378 : decode cL_law 378 = .ok (.iload_n 3, 1) := by decide +kernel
theorem dL_law_379 : decode cL_law 379 = .ok (.iconst 1, 1) := by decide +kernel
theorem dL_law_380 : decode cL_law 380 = .ok (.iadd, 1) := by decide +kernel
theorem dL_law_381 : decode cL_law 381 = .ok (.iaload, 1) := by decide +kernel
theorem dL_law_382 : decode cL_law 382 = .ok (.aload_n 0, 1) := by decide +kernel
theorem dL_law_383 : decode cL_law 383 = .ok (.iload_n 3, 1) := by decide +kernel
theorem dL_law_384 : decode cL_law 384 = .ok (.iconst 2, 1) := by decide +kernel
theorem dL_law_385 : decode cL_law 385 = .ok (.iadd, 1) := by decide +kernel
theorem dL_law_386 : decode cL_law 386 = .ok (.iaload, 1) := by decide +kernel
theorem dL_law_387 : decode cL_law 387 = .ok (.ifCond .eq 7, 3) := by decide +kernel
theorem dL_law_390 : decode cL_law 390 = .ok (.iconst 1, 1) := by decide +kernel
theorem dL_law_391 : decode cL_law 391 = .ok (.goto 4, 3) := by decide +kernel
theorem dL_law_394 : decode cL_law 394 = .ok (.iconst 0, 1) := by decide +kernel
theorem dL_law_395 : decode cL_law 395 = .ok (.invokevirtual 34, 3) := by decide +kernel
theorem dL_law_398 : decode cL_law 398 = .ok (.aload_n 2, 1) := by decide +kernel
theorem dL_law_399 : decode cL_law 399 = .ok (.aload_n 0, 1) := by decide +kernel
theorem dL_law_400 : decode cL_law 400 = .ok (.iload_n 3, 1) := by decide +kernel
theorem dL_law_401 : decode cL_law 401 = .ok (.iconst 1, 1) := by decide +kernel
theorem dL_law_402 : decode cL_law 402 = .ok (.iadd, 1) := by decide +kernel
theorem dL_law_403 : decode cL_law 403 = .ok (.iaload, 1) := by decide +kernel
theorem dL_law_404 : decode cL_law 404 = .ok (.aload_n 0, 1) := by decide +kernel
theorem dL_law_405 : decode cL_law 405 = .ok (.iload_n 3, 1) := by decide +kernel
theorem dL_law_406 : decode cL_law 406 = .ok (.iconst 2, 1) := by decide +kernel
theorem dL_law_407 : decode cL_law 407 = .ok (.iadd, 1) := by decide +kernel
theorem dL_law_408 : decode cL_law 408 = .ok (.iaload, 1) := by decide +kernel
theorem dL_law_409 : decode cL_law 409 = .ok (.ifCond .eq 7, 3) := by decide +kernel
theorem dL_law_412 : decode cL_law 412 = .ok (.iconst 1, 1) := by decide +kernel
theorem dL_law_413 : decode cL_law 413 = .ok (.goto 4, 3) := by decide +kernel
theorem dL_law_416 : decode cL_law 416 = .ok (.iconst 0, 1) := by decide +kernel
theorem dL_law_417 : decode cL_law 417 = .ok (.invokevirtual 38, 3) := by decide +kernel
theorem dL_law_420 : decode cL_law 420 = .ok (.lcmp, 1) := by decide +kernel
theorem dL_law_421 : decode cL_law 421 = .ok (.ifCond .eq 707, 3) := by decide +kernel
theorem dL_law_424 : decode cL_law 424 = .ok (.iconst 0, 1) := by decide +kernel
theorem dL_law_425 : decode cL_law 425 = .ok (.ireturn, 1) := by decide +kernel
theorem dL_law_426 : decode cL_law 426 = .ok (.aload_n 1, 1) := by decide +kernel
theorem dL_law_427 : decode cL_law 427 = .ok (.aload_n 0, 1) := by decide +kernel
theorem dL_law_428 : decode cL_law 428 = .ok (.iload_n 3, 1) := by decide +kernel
theorem dL_law_429 : decode cL_law 429 = .ok (.iconst 1, 1) := by decide +kernel
theorem dL_law_430 : decode cL_law 430 = .ok (.iadd, 1) := by decide +kernel
theorem dL_law_431 : decode cL_law 431 = .ok (.iaload, 1) := by decide +kernel
theorem dL_law_432 : decode cL_law 432 = .ok (.invokevirtual 39, 3) := by decide +kernel
theorem dL_law_435 : decode cL_law 435 = .ok (.aload_n 2, 1) := by decide +kernel
theorem dL_law_436 : decode cL_law 436 = .ok (.aload_n 0, 1) := by decide +kernel
theorem dL_law_437 : decode cL_law 437 = .ok (.iload_n 3, 1) := by decide +kernel
theorem dL_law_438 : decode cL_law 438 = .ok (.iconst 1, 1) := by decide +kernel
theorem dL_law_439 : decode cL_law 439 = .ok (.iadd, 1) := by decide +kernel
theorem dL_law_440 : decode cL_law 440 = .ok (.iaload, 1) := by decide +kernel
theorem dL_law_441 : decode cL_law 441 = .ok (.invokevirtual 42, 3) := by decide +kernel
theorem dL_law_444 : decode cL_law 444 = .ok (.lcmp, 1) := by decide +kernel
theorem dL_law_445 : decode cL_law 445 = .ok (.ifCond .eq 683, 3) := by decide +kernel
theorem dL_law_448 : decode cL_law 448 = .ok (.iconst 0, 1) := by decide +kernel
theorem dL_law_449 : decode cL_law 449 = .ok (.ireturn, 1) := by decide +kernel
theorem dL_law_450 : decode cL_law 450 = .ok (.aload_n 1, 1) := by decide +kernel
theorem dL_law_451 : decode cL_law 451 = .ok (.aload_n 0, 1) := by decide +kernel
theorem dL_law_452 : decode cL_law 452 = .ok (.iload_n 3, 1) := by decide +kernel
theorem dL_law_453 : decode cL_law 453 = .ok (.iconst 1, 1) := by decide +kernel
theorem dL_law_454 : decode cL_law 454 = .ok (.iadd, 1) := by decide +kernel
theorem dL_law_455 : decode cL_law 455 = .ok (.iaload, 1) := by decide +kernel
theorem dL_law_456 : decode cL_law 456 = .ok (.aload_n 0, 1) := by decide +kernel
theorem dL_law_457 : decode cL_law 457 = .ok (.iload_n 3, 1) := by decide +kernel
theorem dL_law_458 : decode cL_law 458 = .ok (.iconst 2, 1) := by decide +kernel
theorem dL_law_459 : decode cL_law 459 = .ok (.iadd, 1) := by decide +kernel
theorem dL_law_460 : decode cL_law 460 = .ok (.iaload, 1) := by decide +kernel
theorem dL_law_461 : decode cL_law 461 = .ok (.invokevirtual 43, 3) := by decide +kernel
theorem dL_law_464 : decode cL_law 464 = .ok (.aload_n 2, 1) := by decide +kernel
theorem dL_law_465 : decode cL_law 465 = .ok (.aload_n 0, 1) := by decide +kernel
theorem dL_law_466 : decode cL_law 466 = .ok (.iload_n 3, 1) := by decide +kernel
theorem dL_law_467 : decode cL_law 467 = .ok (.iconst 1, 1) := by decide +kernel
theorem dL_law_468 : decode cL_law 468 = .ok (.iadd, 1) := by decide +kernel
theorem dL_law_469 : decode cL_law 469 = .ok (.iaload, 1) := by decide +kernel
theorem dL_law_470 : decode cL_law 470 = .ok (.aload_n 0, 1) := by decide +kernel
theorem dL_law_471 : decode cL_law 471 = .ok (.iload_n 3, 1) := by decide +kernel
theorem dL_law_472 : decode cL_law 472 = .ok (.iconst 2, 1) := by decide +kernel
theorem dL_law_473 : decode cL_law 473 = .ok (.iadd, 1) := by decide +kernel
theorem dL_law_474 : decode cL_law 474 = .ok (.iaload, 1) := by decide +kernel
theorem dL_law_475 : decode cL_law 475 = .ok (.invokevirtual 47, 3) := by decide +kernel
theorem dL_law_478 : decode cL_law 478 = .ok (.lcmp, 1) := by decide +kernel
theorem dL_law_479 : decode cL_law 479 = .ok (.ifCond .eq 649, 3) := by decide +kernel
theorem dL_law_482 : decode cL_law 482 = .ok (.iconst 0, 1) := by decide +kernel
theorem dL_law_483 : decode cL_law 483 = .ok (.ireturn, 1) := by decide +kernel
theorem dL_law_484 : decode cL_law 484 = .ok (.aload_n 1, 1) := by decide +kernel
theorem dL_law_485 : decode cL_law 485 = .ok (.aload_n 0, 1) := by decide +kernel
theorem dL_law_486 : decode cL_law 486 = .ok (.iload_n 3, 1) := by decide +kernel
theorem dL_law_487 : decode cL_law 487 = .ok (.iconst 1, 1) := by decide +kernel
theorem dL_law_488 : decode cL_law 488 = .ok (.iadd, 1) := by decide +kernel
theorem dL_law_489 : decode cL_law 489 = .ok (.iaload, 1) := by decide +kernel
theorem dL_law_490 : decode cL_law 490 = .ok (.aload_n 0, 1) := by decide +kernel
theorem dL_law_491 : decode cL_law 491 = .ok (.iload_n 3, 1) := by decide +kernel
theorem dL_law_492 : decode cL_law 492 = .ok (.iconst 2, 1) := by decide +kernel
theorem dL_law_493 : decode cL_law 493 = .ok (.iadd, 1) := by decide +kernel
theorem dL_law_494 : decode cL_law 494 = .ok (.iaload, 1) := by decide +kernel
theorem dL_law_495 : decode cL_law 495 = .ok (.invokevirtual 48, 3) := by decide +kernel
theorem dL_law_498 : decode cL_law 498 = .ok (.aload_n 2, 1) := by decide +kernel
theorem dL_law_499 : decode cL_law 499 = .ok (.aload_n 0, 1) := by decide +kernel
theorem dL_law_500 : decode cL_law 500 = .ok (.iload_n 3, 1) := by decide +kernel
theorem dL_law_501 : decode cL_law 501 = .ok (.iconst 1, 1) := by decide +kernel
theorem dL_law_502 : decode cL_law 502 = .ok (.iadd, 1) := by decide +kernel
theorem dL_law_503 : decode cL_law 503 = .ok (.iaload, 1) := by decide +kernel
theorem dL_law_504 : decode cL_law 504 = .ok (.aload_n 0, 1) := by decide +kernel
theorem dL_law_505 : decode cL_law 505 = .ok (.iload_n 3, 1) := by decide +kernel
theorem dL_law_506 : decode cL_law 506 = .ok (.iconst 2, 1) := by decide +kernel
theorem dL_law_507 : decode cL_law 507 = .ok (.iadd, 1) := by decide +kernel
theorem dL_law_508 : decode cL_law 508 = .ok (.iaload, 1) := by decide +kernel
theorem dL_law_509 : decode cL_law 509 = .ok (.invokevirtual 51, 3) := by decide +kernel
theorem dL_law_512 : decode cL_law 512 = .ok (.lcmp, 1) := by decide +kernel
theorem dL_law_513 : decode cL_law 513 = .ok (.ifCond .eq 615, 3) := by decide +kernel
theorem dL_law_516 : decode cL_law 516 = .ok (.iconst 0, 1) := by decide +kernel
theorem dL_law_517 : decode cL_law 517 = .ok (.ireturn, 1) := by decide +kernel
theorem dL_law_518 : decode cL_law 518 = .ok (.aload_n 1, 1) := by decide +kernel
theorem dL_law_519 : decode cL_law 519 = .ok (.aload_n 0, 1) := by decide +kernel
theorem dL_law_520 : decode cL_law 520 = .ok (.iload_n 3, 1) := by decide +kernel
theorem dL_law_521 : decode cL_law 521 = .ok (.iconst 1, 1) := by decide +kernel
theorem dL_law_522 : decode cL_law 522 = .ok (.iadd, 1) := by decide +kernel
theorem dL_law_523 : decode cL_law 523 = .ok (.iaload, 1) := by decide +kernel
theorem dL_law_524 : decode cL_law 524 = .ok (.invokevirtual 52, 3) := by decide +kernel
theorem dL_law_527 : decode cL_law 527 = .ok (.aload_n 2, 1) := by decide +kernel
theorem dL_law_528 : decode cL_law 528 = .ok (.aload_n 0, 1) := by decide +kernel
theorem dL_law_529 : decode cL_law 529 = .ok (.iload_n 3, 1) := by decide +kernel
theorem dL_law_530 : decode cL_law 530 = .ok (.iconst 1, 1) := by decide +kernel
theorem dL_law_531 : decode cL_law 531 = .ok (.iadd, 1) := by decide +kernel
theorem dL_law_532 : decode cL_law 532 = .ok (.iaload, 1) := by decide +kernel
theorem dL_law_533 : decode cL_law 533 = .ok (.invokevirtual 55, 3) := by decide +kernel
theorem dL_law_536 : decode cL_law 536 = .ok (.lcmp, 1) := by decide +kernel
theorem dL_law_537 : decode cL_law 537 = .ok (.ifCond .eq 591, 3) := by decide +kernel
theorem dL_law_540 : decode cL_law 540 = .ok (.iconst 0, 1) := by decide +kernel
theorem dL_law_541 : decode cL_law 541 = .ok (.ireturn, 1) := by decide +kernel
theorem dL_law_542 : decode cL_law 542 = .ok (.aload_n 1, 1) := by decide +kernel
theorem dL_law_543 : decode cL_law 543 = .ok (.aload_n 0, 1) := by decide +kernel
theorem dL_law_544 : decode cL_law 544 = .ok (.iload_n 3, 1) := by decide +kernel
theorem dL_law_545 : decode cL_law 545 = .ok (.iconst 1, 1) := by decide +kernel
theorem dL_law_546 : decode cL_law 546 = .ok (.iadd, 1) := by decide +kernel
theorem dL_law_547 : decode cL_law 547 = .ok (.iaload, 1) := by decide +kernel
theorem dL_law_548 : decode cL_law 548 = .ok (.invokevirtual 56, 3) := by decide +kernel
theorem dL_law_551 : decode cL_law 551 = .ok (.aload_n 2, 1) := by decide +kernel
theorem dL_law_552 : decode cL_law 552 = .ok (.aload_n 0, 1) := by decide +kernel
theorem dL_law_553 : decode cL_law 553 = .ok (.iload_n 3, 1) := by decide +kernel
theorem dL_law_554 : decode cL_law 554 = .ok (.iconst 1, 1) := by decide +kernel
theorem dL_law_555 : decode cL_law 555 = .ok (.iadd, 1) := by decide +kernel
theorem dL_law_556 : decode cL_law 556 = .ok (.iaload, 1) := by decide +kernel
theorem dL_law_557 : decode cL_law 557 = .ok (.invokevirtual 59, 3) := by decide +kernel
theorem dL_law_560 : decode cL_law 560 = .ok (.lcmp, 1) := by decide +kernel
theorem dL_law_561 : decode cL_law 561 = .ok (.ifCond .eq 567, 3) := by decide +kernel
theorem dL_law_564 : decode cL_law 564 = .ok (.iconst 0, 1) := by decide +kernel
theorem dL_law_565 : decode cL_law 565 = .ok (.ireturn, 1) := by decide +kernel
theorem dL_law_566 : decode cL_law 566 = .ok (.aload_n 1, 1) := by decide +kernel
theorem dL_law_567 : decode cL_law 567 = .ok (.aload_n 0, 1) := by decide +kernel
theorem dL_law_568 : decode cL_law 568 = .ok (.iload_n 3, 1) := by decide +kernel
theorem dL_law_569 : decode cL_law 569 = .ok (.iconst 1, 1) := by decide +kernel
theorem dL_law_570 : decode cL_law 570 = .ok (.iadd, 1) := by decide +kernel
theorem dL_law_571 : decode cL_law 571 = .ok (.iaload, 1) := by decide +kernel
theorem dL_law_572 : decode cL_law 572 = .ok (.invokevirtual 60, 3) := by decide +kernel
theorem dL_law_575 : decode cL_law 575 = .ok (.aload_n 2, 1) := by decide +kernel
theorem dL_law_576 : decode cL_law 576 = .ok (.aload_n 0, 1) := by decide +kernel
theorem dL_law_577 : decode cL_law 577 = .ok (.iload_n 3, 1) := by decide +kernel
theorem dL_law_578 : decode cL_law 578 = .ok (.iconst 1, 1) := by decide +kernel
theorem dL_law_579 : decode cL_law 579 = .ok (.iadd, 1) := by decide +kernel
theorem dL_law_580 : decode cL_law 580 = .ok (.iaload, 1) := by decide +kernel
theorem dL_law_581 : decode cL_law 581 = .ok (.invokevirtual 63, 3) := by decide +kernel
theorem dL_law_584 : decode cL_law 584 = .ok (.lcmp, 1) := by decide +kernel
theorem dL_law_585 : decode cL_law 585 = .ok (.ifCond .eq 543, 3) := by decide +kernel
theorem dL_law_588 : decode cL_law 588 = .ok (.iconst 0, 1) := by decide +kernel
theorem dL_law_589 : decode cL_law 589 = .ok (.ireturn, 1) := by decide +kernel
theorem dL_law_590 : decode cL_law 590 = .ok (.aload_n 1, 1) := by decide +kernel
theorem dL_law_591 : decode cL_law 591 = .ok (.aload_n 0, 1) := by decide +kernel
theorem dL_law_592 : decode cL_law 592 = .ok (.iload_n 3, 1) := by decide +kernel
theorem dL_law_593 : decode cL_law 593 = .ok (.iconst 1, 1) := by decide +kernel
theorem dL_law_594 : decode cL_law 594 = .ok (.iadd, 1) := by decide +kernel
theorem dL_law_595 : decode cL_law 595 = .ok (.iaload, 1) := by decide +kernel
theorem dL_law_596 : decode cL_law 596 = .ok (.aload_n 0, 1) := by decide +kernel
theorem dL_law_597 : decode cL_law 597 = .ok (.iload_n 3, 1) := by decide +kernel
theorem dL_law_598 : decode cL_law 598 = .ok (.iconst 2, 1) := by decide +kernel
theorem dL_law_599 : decode cL_law 599 = .ok (.iadd, 1) := by decide +kernel
theorem dL_law_600 : decode cL_law 600 = .ok (.iaload, 1) := by decide +kernel
theorem dL_law_601 : decode cL_law 601 = .ok (.invokevirtual 64, 3) := by decide +kernel
theorem dL_law_604 : decode cL_law 604 = .ok (.aload_n 2, 1) := by decide +kernel
theorem dL_law_605 : decode cL_law 605 = .ok (.aload_n 0, 1) := by decide +kernel
theorem dL_law_606 : decode cL_law 606 = .ok (.iload_n 3, 1) := by decide +kernel
theorem dL_law_607 : decode cL_law 607 = .ok (.iconst 1, 1) := by decide +kernel
theorem dL_law_608 : decode cL_law 608 = .ok (.iadd, 1) := by decide +kernel
theorem dL_law_609 : decode cL_law 609 = .ok (.iaload, 1) := by decide +kernel
theorem dL_law_610 : decode cL_law 610 = .ok (.aload_n 0, 1) := by decide +kernel
theorem dL_law_611 : decode cL_law 611 = .ok (.iload_n 3, 1) := by decide +kernel
theorem dL_law_612 : decode cL_law 612 = .ok (.iconst 2, 1) := by decide +kernel
theorem dL_law_613 : decode cL_law 613 = .ok (.iadd, 1) := by decide +kernel
theorem dL_law_614 : decode cL_law 614 = .ok (.iaload, 1) := by decide +kernel
theorem dL_law_615 : decode cL_law 615 = .ok (.invokevirtual 67, 3) := by decide +kernel
theorem dL_law_618 : decode cL_law 618 = .ok (.lcmp, 1) := by decide +kernel
theorem dL_law_619 : decode cL_law 619 = .ok (.ifCond .eq 509, 3) := by decide +kernel
theorem dL_law_622 : decode cL_law 622 = .ok (.iconst 0, 1) := by decide +kernel
theorem dL_law_623 : decode cL_law 623 = .ok (.ireturn, 1) := by decide +kernel
theorem dL_law_624 : decode cL_law 624 = .ok (.aload_n 1, 1) := by decide +kernel
theorem dL_law_625 : decode cL_law 625 = .ok (.aload_n 0, 1) := by decide +kernel
theorem dL_law_626 : decode cL_law 626 = .ok (.iload_n 3, 1) := by decide +kernel
theorem dL_law_627 : decode cL_law 627 = .ok (.iconst 1, 1) := by decide +kernel
theorem dL_law_628 : decode cL_law 628 = .ok (.iadd, 1) := by decide +kernel
theorem dL_law_629 : decode cL_law 629 = .ok (.iaload, 1) := by decide +kernel
theorem dL_law_630 : decode cL_law 630 = .ok (.aload_n 0, 1) := by decide +kernel
theorem dL_law_631 : decode cL_law 631 = .ok (.iload_n 3, 1) := by decide +kernel
theorem dL_law_632 : decode cL_law 632 = .ok (.iconst 2, 1) := by decide +kernel
theorem dL_law_633 : decode cL_law 633 = .ok (.iadd, 1) := by decide +kernel
theorem dL_law_634 : decode cL_law 634 = .ok (.iaload, 1) := by decide +kernel
theorem dL_law_635 : decode cL_law 635 = .ok (.aload_n 0, 1) := by decide +kernel
theorem dL_law_636 : decode cL_law 636 = .ok (.iload_n 3, 1) := by decide +kernel
theorem dL_law_637 : decode cL_law 637 = .ok (.iconst 3, 1) := by decide +kernel
theorem dL_law_638 : decode cL_law 638 = .ok (.iadd, 1) := by decide +kernel
theorem dL_law_639 : decode cL_law 639 = .ok (.iaload, 1) := by decide +kernel
theorem dL_law_640 : decode cL_law 640 = .ok (.invokevirtual 68, 3) := by decide +kernel
theorem dL_law_643 : decode cL_law 643 = .ok (.aload_n 2, 1) := by decide +kernel
theorem dL_law_644 : decode cL_law 644 = .ok (.aload_n 0, 1) := by decide +kernel
theorem dL_law_645 : decode cL_law 645 = .ok (.iload_n 3, 1) := by decide +kernel
theorem dL_law_646 : decode cL_law 646 = .ok (.iconst 1, 1) := by decide +kernel
theorem dL_law_647 : decode cL_law 647 = .ok (.iadd, 1) := by decide +kernel
theorem dL_law_648 : decode cL_law 648 = .ok (.iaload, 1) := by decide +kernel
theorem dL_law_649 : decode cL_law 649 = .ok (.aload_n 0, 1) := by decide +kernel
theorem dL_law_650 : decode cL_law 650 = .ok (.iload_n 3, 1) := by decide +kernel
theorem dL_law_651 : decode cL_law 651 = .ok (.iconst 2, 1) := by decide +kernel
theorem dL_law_652 : decode cL_law 652 = .ok (.iadd, 1) := by decide +kernel
theorem dL_law_653 : decode cL_law 653 = .ok (.iaload, 1) := by decide +kernel
theorem dL_law_654 : decode cL_law 654 = .ok (.aload_n 0, 1) := by decide +kernel
theorem dL_law_655 : decode cL_law 655 = .ok (.iload_n 3, 1) := by decide +kernel
theorem dL_law_656 : decode cL_law 656 = .ok (.iconst 3, 1) := by decide +kernel
theorem dL_law_657 : decode cL_law 657 = .ok (.iadd, 1) := by decide +kernel
theorem dL_law_658 : decode cL_law 658 = .ok (.iaload, 1) := by decide +kernel
theorem dL_law_659 : decode cL_law 659 = .ok (.invokevirtual 71, 3) := by decide +kernel
theorem dL_law_662 : decode cL_law 662 = .ok (.lcmp, 1) := by decide +kernel
theorem dL_law_663 : decode cL_law 663 = .ok (.ifCond .eq 465, 3) := by decide +kernel
theorem dL_law_666 : decode cL_law 666 = .ok (.iconst 0, 1) := by decide +kernel
theorem dL_law_667 : decode cL_law 667 = .ok (.ireturn, 1) := by decide +kernel
theorem dL_law_668 : decode cL_law 668 = .ok (.aload_n 1, 1) := by decide +kernel
theorem dL_law_669 : decode cL_law 669 = .ok (.aload_n 0, 1) := by decide +kernel
theorem dL_law_670 : decode cL_law 670 = .ok (.iload_n 3, 1) := by decide +kernel
theorem dL_law_671 : decode cL_law 671 = .ok (.iconst 1, 1) := by decide +kernel
theorem dL_law_672 : decode cL_law 672 = .ok (.iadd, 1) := by decide +kernel
theorem dL_law_673 : decode cL_law 673 = .ok (.iaload, 1) := by decide +kernel
theorem dL_law_674 : decode cL_law 674 = .ok (.aload_n 0, 1) := by decide +kernel
theorem dL_law_675 : decode cL_law 675 = .ok (.iload_n 3, 1) := by decide +kernel
theorem dL_law_676 : decode cL_law 676 = .ok (.iconst 2, 1) := by decide +kernel
theorem dL_law_677 : decode cL_law 677 = .ok (.iadd, 1) := by decide +kernel
theorem dL_law_678 : decode cL_law 678 = .ok (.iaload, 1) := by decide +kernel
theorem dL_law_679 : decode cL_law 679 = .ok (.i2l, 1) := by decide +kernel
theorem dL_law_680 : decode cL_law 680 = .ok (.bipush 32, 2) := by decide +kernel
theorem dL_law_682 : decode cL_law 682 = .ok (.lshl, 1) := by decide +kernel
theorem dL_law_683 : decode cL_law 683 = .ok (.aload_n 0, 1) := by decide +kernel
theorem dL_law_684 : decode cL_law 684 = .ok (.iload_n 3, 1) := by decide +kernel
theorem dL_law_685 : decode cL_law 685 = .ok (.iconst 3, 1) := by decide +kernel
theorem dL_law_686 : decode cL_law 686 = .ok (.iadd, 1) := by decide +kernel
theorem dL_law_687 : decode cL_law 687 = .ok (.iaload, 1) := by decide +kernel
theorem dL_law_688 : decode cL_law 688 = .ok (.i2l, 1) := by decide +kernel
theorem dL_law_689 : decode cL_law 689 = .ok (.ldc2_w 27, 3) := by decide +kernel
theorem dL_law_692 : decode cL_law 692 = .ok (.land, 1) := by decide +kernel
theorem dL_law_693 : decode cL_law 693 = .ok (.lor, 1) := by decide +kernel
theorem dL_law_694 : decode cL_law 694 = .ok (.invokevirtual 72, 3) := by decide +kernel
theorem dL_law_697 : decode cL_law 697 = .ok (.aload_n 2, 1) := by decide +kernel
theorem dL_law_698 : decode cL_law 698 = .ok (.aload_n 0, 1) := by decide +kernel
theorem dL_law_699 : decode cL_law 699 = .ok (.iload_n 3, 1) := by decide +kernel
theorem dL_law_700 : decode cL_law 700 = .ok (.iconst 1, 1) := by decide +kernel
theorem dL_law_701 : decode cL_law 701 = .ok (.iadd, 1) := by decide +kernel
theorem dL_law_702 : decode cL_law 702 = .ok (.iaload, 1) := by decide +kernel
theorem dL_law_703 : decode cL_law 703 = .ok (.aload_n 0, 1) := by decide +kernel
theorem dL_law_704 : decode cL_law 704 = .ok (.iload_n 3, 1) := by decide +kernel
theorem dL_law_705 : decode cL_law 705 = .ok (.iconst 2, 1) := by decide +kernel
theorem dL_law_706 : decode cL_law 706 = .ok (.iadd, 1) := by decide +kernel
theorem dL_law_707 : decode cL_law 707 = .ok (.iaload, 1) := by decide +kernel
theorem dL_law_708 : decode cL_law 708 = .ok (.i2l, 1) := by decide +kernel
theorem dL_law_709 : decode cL_law 709 = .ok (.bipush 32, 2) := by decide +kernel
theorem dL_law_711 : decode cL_law 711 = .ok (.lshl, 1) := by decide +kernel
theorem dL_law_712 : decode cL_law 712 = .ok (.aload_n 0, 1) := by decide +kernel
theorem dL_law_713 : decode cL_law 713 = .ok (.iload_n 3, 1) := by decide +kernel
theorem dL_law_714 : decode cL_law 714 = .ok (.iconst 3, 1) := by decide +kernel
theorem dL_law_715 : decode cL_law 715 = .ok (.iadd, 1) := by decide +kernel
theorem dL_law_716 : decode cL_law 716 = .ok (.iaload, 1) := by decide +kernel
theorem dL_law_717 : decode cL_law 717 = .ok (.i2l, 1) := by decide +kernel
theorem dL_law_718 : decode cL_law 718 = .ok (.ldc2_w 27, 3) := by decide +kernel
theorem dL_law_721 : decode cL_law 721 = .ok (.land, 1) := by decide +kernel
theorem dL_law_722 : decode cL_law 722 = .ok (.lor, 1) := by decide +kernel
theorem dL_law_723 : decode cL_law 723 = .ok (.invokevirtual 76, 3) := by decide +kernel
theorem dL_law_726 : decode cL_law 726 = .ok (.lcmp, 1) := by decide +kernel
theorem dL_law_727 : decode cL_law 727 = .ok (.ifCond .eq 401, 3) := by decide +kernel
theorem dL_law_730 : decode cL_law 730 = .ok (.iconst 0, 1) := by decide +kernel
theorem dL_law_731 : decode cL_law 731 = .ok (.ireturn, 1) := by decide +kernel
theorem dL_law_732 : decode cL_law 732 = .ok (.aload_n 1, 1) := by decide +kernel
theorem dL_law_733 : decode cL_law 733 = .ok (.aload_n 0, 1) := by decide +kernel
theorem dL_law_734 : decode cL_law 734 = .ok (.iload_n 3, 1) := by decide +kernel
theorem dL_law_735 : decode cL_law 735 = .ok (.iconst 1, 1) := by decide +kernel
theorem dL_law_736 : decode cL_law 736 = .ok (.iadd, 1) := by decide +kernel
theorem dL_law_737 : decode cL_law 737 = .ok (.iaload, 1) := by decide +kernel
theorem dL_law_738 : decode cL_law 738 = .ok (.aload_n 0, 1) := by decide +kernel
theorem dL_law_739 : decode cL_law 739 = .ok (.iload_n 3, 1) := by decide +kernel
theorem dL_law_740 : decode cL_law 740 = .ok (.iconst 2, 1) := by decide +kernel
theorem dL_law_741 : decode cL_law 741 = .ok (.iadd, 1) := by decide +kernel
theorem dL_law_742 : decode cL_law 742 = .ok (.iaload, 1) := by decide +kernel
theorem dL_law_743 : decode cL_law 743 = .ok (.aload_n 0, 1) := by decide +kernel
theorem dL_law_744 : decode cL_law 744 = .ok (.iload_n 3, 1) := by decide +kernel
theorem dL_law_745 : decode cL_law 745 = .ok (.iconst 3, 1) := by decide +kernel
theorem dL_law_746 : decode cL_law 746 = .ok (.iadd, 1) := by decide +kernel
theorem dL_law_747 : decode cL_law 747 = .ok (.iaload, 1) := by decide +kernel
theorem dL_law_748 : decode cL_law 748 = .ok (.invokevirtual 77, 3) := by decide +kernel
theorem dL_law_751 : decode cL_law 751 = .ok (.aload_n 2, 1) := by decide +kernel
theorem dL_law_752 : decode cL_law 752 = .ok (.aload_n 0, 1) := by decide +kernel
theorem dL_law_753 : decode cL_law 753 = .ok (.iload_n 3, 1) := by decide +kernel
theorem dL_law_754 : decode cL_law 754 = .ok (.iconst 1, 1) := by decide +kernel
theorem dL_law_755 : decode cL_law 755 = .ok (.iadd, 1) := by decide +kernel
theorem dL_law_756 : decode cL_law 756 = .ok (.iaload, 1) := by decide +kernel
theorem dL_law_757 : decode cL_law 757 = .ok (.aload_n 0, 1) := by decide +kernel
theorem dL_law_758 : decode cL_law 758 = .ok (.iload_n 3, 1) := by decide +kernel
theorem dL_law_759 : decode cL_law 759 = .ok (.iconst 2, 1) := by decide +kernel
theorem dL_law_760 : decode cL_law 760 = .ok (.iadd, 1) := by decide +kernel
theorem dL_law_761 : decode cL_law 761 = .ok (.iaload, 1) := by decide +kernel
theorem dL_law_762 : decode cL_law 762 = .ok (.aload_n 0, 1) := by decide +kernel
theorem dL_law_763 : decode cL_law 763 = .ok (.iload_n 3, 1) := by decide +kernel
theorem dL_law_764 : decode cL_law 764 = .ok (.iconst 3, 1) := by decide +kernel
theorem dL_law_765 : decode cL_law 765 = .ok (.iadd, 1) := by decide +kernel
theorem dL_law_766 : decode cL_law 766 = .ok (.iaload, 1) := by decide +kernel
theorem dL_law_767 : decode cL_law 767 = .ok (.invokevirtual 80, 3) := by decide +kernel
theorem dL_law_770 : decode cL_law 770 = .ok (.lcmp, 1) := by decide +kernel
theorem dL_law_771 : decode cL_law 771 = .ok (.ifCond .eq 357, 3) := by decide +kernel
theorem dL_law_774 : decode cL_law 774 = .ok (.iconst 0, 1) := by decide +kernel
theorem dL_law_775 : decode cL_law 775 = .ok (.ireturn, 1) := by decide +kernel
theorem dL_law_776 : decode cL_law 776 = .ok (.aload_n 1, 1) := by decide +kernel
theorem dL_law_777 : decode cL_law 777 = .ok (.aload_n 0, 1) := by decide +kernel
theorem dL_law_778 : decode cL_law 778 = .ok (.iload_n 3, 1) := by decide +kernel
theorem dL_law_779 : decode cL_law 779 = .ok (.iconst 1, 1) := by decide +kernel
theorem dL_law_780 : decode cL_law 780 = .ok (.iadd, 1) := by decide +kernel
theorem dL_law_781 : decode cL_law 781 = .ok (.iaload, 1) := by decide +kernel
theorem dL_law_782 : decode cL_law 782 = .ok (.aload_n 0, 1) := by decide +kernel
theorem dL_law_783 : decode cL_law 783 = .ok (.iload_n 3, 1) := by decide +kernel
theorem dL_law_784 : decode cL_law 784 = .ok (.iconst 2, 1) := by decide +kernel
theorem dL_law_785 : decode cL_law 785 = .ok (.iadd, 1) := by decide +kernel
theorem dL_law_786 : decode cL_law 786 = .ok (.iaload, 1) := by decide +kernel
theorem dL_law_787 : decode cL_law 787 = .ok (.invokevirtual 81, 3) := by decide +kernel
theorem dL_law_790 : decode cL_law 790 = .ok (.aload_n 2, 1) := by decide +kernel
theorem dL_law_791 : decode cL_law 791 = .ok (.aload_n 0, 1) := by decide +kernel
theorem dL_law_792 : decode cL_law 792 = .ok (.iload_n 3, 1) := by decide +kernel
theorem dL_law_793 : decode cL_law 793 = .ok (.iconst 1, 1) := by decide +kernel
theorem dL_law_794 : decode cL_law 794 = .ok (.iadd, 1) := by decide +kernel
theorem dL_law_795 : decode cL_law 795 = .ok (.iaload, 1) := by decide +kernel
theorem dL_law_796 : decode cL_law 796 = .ok (.aload_n 0, 1) := by decide +kernel
theorem dL_law_797 : decode cL_law 797 = .ok (.iload_n 3, 1) := by decide +kernel
theorem dL_law_798 : decode cL_law 798 = .ok (.iconst 2, 1) := by decide +kernel
theorem dL_law_799 : decode cL_law 799 = .ok (.iadd, 1) := by decide +kernel
theorem dL_law_800 : decode cL_law 800 = .ok (.iaload, 1) := by decide +kernel
theorem dL_law_801 : decode cL_law 801 = .ok (.invokevirtual 84, 3) := by decide +kernel
theorem dL_law_804 : decode cL_law 804 = .ok (.lcmp, 1) := by decide +kernel
theorem dL_law_805 : decode cL_law 805 = .ok (.ifCond .eq 323, 3) := by decide +kernel
theorem dL_law_808 : decode cL_law 808 = .ok (.iconst 0, 1) := by decide +kernel
theorem dL_law_809 : decode cL_law 809 = .ok (.ireturn, 1) := by decide +kernel
theorem dL_law_810 : decode cL_law 810 = .ok (.aload_n 1, 1) := by decide +kernel
theorem dL_law_811 : decode cL_law 811 = .ok (.aload_n 0, 1) := by decide +kernel
theorem dL_law_812 : decode cL_law 812 = .ok (.iload_n 3, 1) := by decide +kernel
theorem dL_law_813 : decode cL_law 813 = .ok (.iconst 1, 1) := by decide +kernel
theorem dL_law_814 : decode cL_law 814 = .ok (.iadd, 1) := by decide +kernel
theorem dL_law_815 : decode cL_law 815 = .ok (.iaload, 1) := by decide +kernel
theorem dL_law_816 : decode cL_law 816 = .ok (.aload_n 0, 1) := by decide +kernel
theorem dL_law_817 : decode cL_law 817 = .ok (.iload_n 3, 1) := by decide +kernel
theorem dL_law_818 : decode cL_law 818 = .ok (.iconst 2, 1) := by decide +kernel
theorem dL_law_819 : decode cL_law 819 = .ok (.iadd, 1) := by decide +kernel
theorem dL_law_820 : decode cL_law 820 = .ok (.iaload, 1) := by decide +kernel
theorem dL_law_821 : decode cL_law 821 = .ok (.invokevirtual 85, 3) := by decide +kernel
theorem dL_law_824 : decode cL_law 824 = .ok (.aload_n 2, 1) := by decide +kernel
theorem dL_law_825 : decode cL_law 825 = .ok (.aload_n 0, 1) := by decide +kernel
theorem dL_law_826 : decode cL_law 826 = .ok (.iload_n 3, 1) := by decide +kernel
theorem dL_law_827 : decode cL_law 827 = .ok (.iconst 1, 1) := by decide +kernel
theorem dL_law_828 : decode cL_law 828 = .ok (.iadd, 1) := by decide +kernel
theorem dL_law_829 : decode cL_law 829 = .ok (.iaload, 1) := by decide +kernel
theorem dL_law_830 : decode cL_law 830 = .ok (.aload_n 0, 1) := by decide +kernel
theorem dL_law_831 : decode cL_law 831 = .ok (.iload_n 3, 1) := by decide +kernel
theorem dL_law_832 : decode cL_law 832 = .ok (.iconst 2, 1) := by decide +kernel
theorem dL_law_833 : decode cL_law 833 = .ok (.iadd, 1) := by decide +kernel
theorem dL_law_834 : decode cL_law 834 = .ok (.iaload, 1) := by decide +kernel
theorem dL_law_835 : decode cL_law 835 = .ok (.invokevirtual 88, 3) := by decide +kernel
theorem dL_law_838 : decode cL_law 838 = .ok (.lcmp, 1) := by decide +kernel
theorem dL_law_839 : decode cL_law 839 = .ok (.ifCond .eq 289, 3) := by decide +kernel
theorem dL_law_842 : decode cL_law 842 = .ok (.iconst 0, 1) := by decide +kernel
theorem dL_law_843 : decode cL_law 843 = .ok (.ireturn, 1) := by decide +kernel
theorem dL_law_844 : decode cL_law 844 = .ok (.aload_n 1, 1) := by decide +kernel
theorem dL_law_845 : decode cL_law 845 = .ok (.aload_n 0, 1) := by decide +kernel
theorem dL_law_846 : decode cL_law 846 = .ok (.iload_n 3, 1) := by decide +kernel
theorem dL_law_847 : decode cL_law 847 = .ok (.iconst 1, 1) := by decide +kernel
theorem dL_law_848 : decode cL_law 848 = .ok (.iadd, 1) := by decide +kernel
theorem dL_law_849 : decode cL_law 849 = .ok (.iaload, 1) := by decide +kernel
theorem dL_law_850 : decode cL_law 850 = .ok (.invokevirtual 89, 3) := by decide +kernel
theorem dL_law_853 : decode cL_law 853 = .ok (.aload_n 2, 1) := by decide +kernel
theorem dL_law_854 : decode cL_law 854 = .ok (.aload_n 0, 1) := by decide +kernel
theorem dL_law_855 : decode cL_law 855 = .ok (.iload_n 3, 1) := by decide +kernel
theorem dL_law_856 : decode cL_law 856 = .ok (.iconst 1, 1) := by decide +kernel
theorem dL_law_857 : decode cL_law 857 = .ok (.iadd, 1) := by decide +kernel
theorem dL_law_858 : decode cL_law 858 = .ok (.iaload, 1) := by decide +kernel
theorem dL_law_859 : decode cL_law 859 = .ok (.invokevirtual 92, 3) := by decide +kernel
theorem dL_law_862 : decode cL_law 862 = .ok (.lcmp, 1) := by decide +kernel
theorem dL_law_863 : decode cL_law 863 = .ok (.ifCond .eq 265, 3) := by decide +kernel
theorem dL_law_866 : decode cL_law 866 = .ok (.iconst 0, 1) := by decide +kernel
theorem dL_law_867 : decode cL_law 867 = .ok (.ireturn, 1) := by decide +kernel
theorem dL_law_868 : decode cL_law 868 = .ok (.aload_n 1, 1) := by decide +kernel
theorem dL_law_869 : decode cL_law 869 = .ok (.aload_n 0, 1) := by decide +kernel
theorem dL_law_870 : decode cL_law 870 = .ok (.iload_n 3, 1) := by decide +kernel
theorem dL_law_871 : decode cL_law 871 = .ok (.iconst 1, 1) := by decide +kernel
theorem dL_law_872 : decode cL_law 872 = .ok (.iadd, 1) := by decide +kernel
theorem dL_law_873 : decode cL_law 873 = .ok (.iaload, 1) := by decide +kernel
theorem dL_law_874 : decode cL_law 874 = .ok (.aload_n 0, 1) := by decide +kernel
theorem dL_law_875 : decode cL_law 875 = .ok (.iload_n 3, 1) := by decide +kernel
theorem dL_law_876 : decode cL_law 876 = .ok (.iconst 2, 1) := by decide +kernel
theorem dL_law_877 : decode cL_law 877 = .ok (.iadd, 1) := by decide +kernel
theorem dL_law_878 : decode cL_law 878 = .ok (.iaload, 1) := by decide +kernel
theorem dL_law_879 : decode cL_law 879 = .ok (.invokevirtual 93, 3) := by decide +kernel
theorem dL_law_882 : decode cL_law 882 = .ok (.aload_n 2, 1) := by decide +kernel
theorem dL_law_883 : decode cL_law 883 = .ok (.aload_n 0, 1) := by decide +kernel
theorem dL_law_884 : decode cL_law 884 = .ok (.iload_n 3, 1) := by decide +kernel
theorem dL_law_885 : decode cL_law 885 = .ok (.iconst 1, 1) := by decide +kernel
theorem dL_law_886 : decode cL_law 886 = .ok (.iadd, 1) := by decide +kernel
theorem dL_law_887 : decode cL_law 887 = .ok (.iaload, 1) := by decide +kernel
theorem dL_law_888 : decode cL_law 888 = .ok (.aload_n 0, 1) := by decide +kernel
theorem dL_law_889 : decode cL_law 889 = .ok (.iload_n 3, 1) := by decide +kernel
theorem dL_law_890 : decode cL_law 890 = .ok (.iconst 2, 1) := by decide +kernel
theorem dL_law_891 : decode cL_law 891 = .ok (.iadd, 1) := by decide +kernel
theorem dL_law_892 : decode cL_law 892 = .ok (.iaload, 1) := by decide +kernel
theorem dL_law_893 : decode cL_law 893 = .ok (.invokevirtual 96, 3) := by decide +kernel
theorem dL_law_896 : decode cL_law 896 = .ok (.lcmp, 1) := by decide +kernel
theorem dL_law_897 : decode cL_law 897 = .ok (.ifCond .eq 231, 3) := by decide +kernel
theorem dL_law_900 : decode cL_law 900 = .ok (.iconst 0, 1) := by decide +kernel
theorem dL_law_901 : decode cL_law 901 = .ok (.ireturn, 1) := by decide +kernel
theorem dL_law_902 : decode cL_law 902 = .ok (.aload_n 1, 1) := by decide +kernel
theorem dL_law_903 : decode cL_law 903 = .ok (.aload_n 0, 1) := by decide +kernel
theorem dL_law_904 : decode cL_law 904 = .ok (.iload_n 3, 1) := by decide +kernel
theorem dL_law_905 : decode cL_law 905 = .ok (.iconst 1, 1) := by decide +kernel
theorem dL_law_906 : decode cL_law 906 = .ok (.iadd, 1) := by decide +kernel
theorem dL_law_907 : decode cL_law 907 = .ok (.iaload, 1) := by decide +kernel
theorem dL_law_908 : decode cL_law 908 = .ok (.aload_n 0, 1) := by decide +kernel
theorem dL_law_909 : decode cL_law 909 = .ok (.iload_n 3, 1) := by decide +kernel
theorem dL_law_910 : decode cL_law 910 = .ok (.iconst 2, 1) := by decide +kernel
theorem dL_law_911 : decode cL_law 911 = .ok (.iadd, 1) := by decide +kernel
theorem dL_law_912 : decode cL_law 912 = .ok (.iaload, 1) := by decide +kernel
theorem dL_law_913 : decode cL_law 913 = .ok (.invokevirtual 97, 3) := by decide +kernel
theorem dL_law_916 : decode cL_law 916 = .ok (.aload_n 2, 1) := by decide +kernel
theorem dL_law_917 : decode cL_law 917 = .ok (.aload_n 0, 1) := by decide +kernel
theorem dL_law_918 : decode cL_law 918 = .ok (.iload_n 3, 1) := by decide +kernel
theorem dL_law_919 : decode cL_law 919 = .ok (.iconst 1, 1) := by decide +kernel
theorem dL_law_920 : decode cL_law 920 = .ok (.iadd, 1) := by decide +kernel
theorem dL_law_921 : decode cL_law 921 = .ok (.iaload, 1) := by decide +kernel
theorem dL_law_922 : decode cL_law 922 = .ok (.aload_n 0, 1) := by decide +kernel
theorem dL_law_923 : decode cL_law 923 = .ok (.iload_n 3, 1) := by decide +kernel
theorem dL_law_924 : decode cL_law 924 = .ok (.iconst 2, 1) := by decide +kernel
theorem dL_law_925 : decode cL_law 925 = .ok (.iadd, 1) := by decide +kernel
theorem dL_law_926 : decode cL_law 926 = .ok (.iaload, 1) := by decide +kernel
theorem dL_law_927 : decode cL_law 927 = .ok (.invokevirtual 100, 3) := by decide +kernel
theorem dL_law_930 : decode cL_law 930 = .ok (.lcmp, 1) := by decide +kernel
theorem dL_law_931 : decode cL_law 931 = .ok (.ifCond .eq 197, 3) := by decide +kernel
theorem dL_law_934 : decode cL_law 934 = .ok (.iconst 0, 1) := by decide +kernel
theorem dL_law_935 : decode cL_law 935 = .ok (.ireturn, 1) := by decide +kernel
theorem dL_law_936 : decode cL_law 936 = .ok (.aload_n 1, 1) := by decide +kernel
theorem dL_law_937 : decode cL_law 937 = .ok (.aload_n 0, 1) := by decide +kernel
theorem dL_law_938 : decode cL_law 938 = .ok (.iload_n 3, 1) := by decide +kernel
theorem dL_law_939 : decode cL_law 939 = .ok (.iconst 1, 1) := by decide +kernel
theorem dL_law_940 : decode cL_law 940 = .ok (.iadd, 1) := by decide +kernel
theorem dL_law_941 : decode cL_law 941 = .ok (.iaload, 1) := by decide +kernel
theorem dL_law_942 : decode cL_law 942 = .ok (.invokevirtual 101, 3) := by decide +kernel
theorem dL_law_945 : decode cL_law 945 = .ok (.aload_n 2, 1) := by decide +kernel
theorem dL_law_946 : decode cL_law 946 = .ok (.aload_n 0, 1) := by decide +kernel
theorem dL_law_947 : decode cL_law 947 = .ok (.iload_n 3, 1) := by decide +kernel
theorem dL_law_948 : decode cL_law 948 = .ok (.iconst 1, 1) := by decide +kernel
theorem dL_law_949 : decode cL_law 949 = .ok (.iadd, 1) := by decide +kernel
theorem dL_law_950 : decode cL_law 950 = .ok (.iaload, 1) := by decide +kernel
theorem dL_law_951 : decode cL_law 951 = .ok (.invokevirtual 104, 3) := by decide +kernel
theorem dL_law_954 : decode cL_law 954 = .ok (.lcmp, 1) := by decide +kernel
theorem dL_law_955 : decode cL_law 955 = .ok (.ifCond .eq 173, 3) := by decide +kernel
theorem dL_law_958 : decode cL_law 958 = .ok (.iconst 0, 1) := by decide +kernel
theorem dL_law_959 : decode cL_law 959 = .ok (.ireturn, 1) := by decide +kernel
theorem dL_law_960 : decode cL_law 960 = .ok (.aload_n 1, 1) := by decide +kernel
theorem dL_law_961 : decode cL_law 961 = .ok (.aload_n 0, 1) := by decide +kernel
theorem dL_law_962 : decode cL_law 962 = .ok (.iload_n 3, 1) := by decide +kernel
theorem dL_law_963 : decode cL_law 963 = .ok (.iconst 1, 1) := by decide +kernel
theorem dL_law_964 : decode cL_law 964 = .ok (.iadd, 1) := by decide +kernel
theorem dL_law_965 : decode cL_law 965 = .ok (.iaload, 1) := by decide +kernel
theorem dL_law_966 : decode cL_law 966 = .ok (.invokevirtual 105, 3) := by decide +kernel
theorem dL_law_969 : decode cL_law 969 = .ok (.aload_n 2, 1) := by decide +kernel
theorem dL_law_970 : decode cL_law 970 = .ok (.aload_n 0, 1) := by decide +kernel
theorem dL_law_971 : decode cL_law 971 = .ok (.iload_n 3, 1) := by decide +kernel
theorem dL_law_972 : decode cL_law 972 = .ok (.iconst 1, 1) := by decide +kernel
theorem dL_law_973 : decode cL_law 973 = .ok (.iadd, 1) := by decide +kernel
theorem dL_law_974 : decode cL_law 974 = .ok (.iaload, 1) := by decide +kernel
theorem dL_law_975 : decode cL_law 975 = .ok (.invokevirtual 108, 3) := by decide +kernel
theorem dL_law_978 : decode cL_law 978 = .ok (.lcmp, 1) := by decide +kernel
theorem dL_law_979 : decode cL_law 979 = .ok (.ifCond .eq 149, 3) := by decide +kernel
theorem dL_law_982 : decode cL_law 982 = .ok (.iconst 0, 1) := by decide +kernel
theorem dL_law_983 : decode cL_law 983 = .ok (.ireturn, 1) := by decide +kernel
theorem dL_law_984 : decode cL_law 984 = .ok (.aload_n 1, 1) := by decide +kernel
theorem dL_law_985 : decode cL_law 985 = .ok (.aload_n 0, 1) := by decide +kernel
theorem dL_law_986 : decode cL_law 986 = .ok (.iload_n 3, 1) := by decide +kernel
theorem dL_law_987 : decode cL_law 987 = .ok (.iconst 1, 1) := by decide +kernel
theorem dL_law_988 : decode cL_law 988 = .ok (.iadd, 1) := by decide +kernel
theorem dL_law_989 : decode cL_law 989 = .ok (.iaload, 1) := by decide +kernel
theorem dL_law_990 : decode cL_law 990 = .ok (.aload_n 0, 1) := by decide +kernel
theorem dL_law_991 : decode cL_law 991 = .ok (.iload_n 3, 1) := by decide +kernel
theorem dL_law_992 : decode cL_law 992 = .ok (.iconst 2, 1) := by decide +kernel
theorem dL_law_993 : decode cL_law 993 = .ok (.iadd, 1) := by decide +kernel
theorem dL_law_994 : decode cL_law 994 = .ok (.iaload, 1) := by decide +kernel
theorem dL_law_995 : decode cL_law 995 = .ok (.invokevirtual 109, 3) := by decide +kernel
theorem dL_law_998 : decode cL_law 998 = .ok (.aload_n 2, 1) := by decide +kernel
theorem dL_law_999 : decode cL_law 999 = .ok (.aload_n 0, 1) := by decide +kernel
theorem dL_law_1000 : decode cL_law 1000 = .ok (.iload_n 3, 1) := by decide +kernel
theorem dL_law_1001 : decode cL_law 1001 = .ok (.iconst 1, 1) := by decide +kernel
theorem dL_law_1002 : decode cL_law 1002 = .ok (.iadd, 1) := by decide +kernel
theorem dL_law_1003 : decode cL_law 1003 = .ok (.iaload, 1) := by decide +kernel
theorem dL_law_1004 : decode cL_law 1004 = .ok (.aload_n 0, 1) := by decide +kernel
theorem dL_law_1005 : decode cL_law 1005 = .ok (.iload_n 3, 1) := by decide +kernel
theorem dL_law_1006 : decode cL_law 1006 = .ok (.iconst 2, 1) := by decide +kernel
theorem dL_law_1007 : decode cL_law 1007 = .ok (.iadd, 1) := by decide +kernel
theorem dL_law_1008 : decode cL_law 1008 = .ok (.iaload, 1) := by decide +kernel
theorem dL_law_1009 : decode cL_law 1009 = .ok (.invokevirtual 112, 3) := by decide +kernel
theorem dL_law_1012 : decode cL_law 1012 = .ok (.lcmp, 1) := by decide +kernel
theorem dL_law_1013 : decode cL_law 1013 = .ok (.ifCond .eq 115, 3) := by decide +kernel
theorem dL_law_1016 : decode cL_law 1016 = .ok (.iconst 0, 1) := by decide +kernel
theorem dL_law_1017 : decode cL_law 1017 = .ok (.ireturn, 1) := by decide +kernel
theorem dL_law_1018 : decode cL_law 1018 = .ok (.aload_n 1, 1) := by decide +kernel
theorem dL_law_1019 : decode cL_law 1019 = .ok (.invokevirtual 113, 3) := by decide +kernel
theorem dL_law_1022 : decode cL_law 1022 = .ok (.aload_n 2, 1) := by decide +kernel
theorem dL_law_1023 : decode cL_law 1023 = .ok (.invokevirtual 117, 3) := by decide +kernel
theorem dL_law_1026 : decode cL_law 1026 = .ok (.lcmp, 1) := by decide +kernel
theorem dL_law_1027 : decode cL_law 1027 = .ok (.ifCond .eq 101, 3) := by decide +kernel
theorem dL_law_1030 : decode cL_law 1030 = .ok (.iconst 0, 1) := by decide +kernel
theorem dL_law_1031 : decode cL_law 1031 = .ok (.ireturn, 1) := by decide +kernel
theorem dL_law_1032 : decode cL_law 1032 = .ok (.aload_n 1, 1) := by decide +kernel
theorem dL_law_1033 : decode cL_law 1033 = .ok (.aload_n 0, 1) := by decide +kernel
theorem dL_law_1034 : decode cL_law 1034 = .ok (.iload_n 3, 1) := by decide +kernel
theorem dL_law_1035 : decode cL_law 1035 = .ok (.iconst 1, 1) := by decide +kernel
theorem dL_law_1036 : decode cL_law 1036 = .ok (.iadd, 1) := by decide +kernel
theorem dL_law_1037 : decode cL_law 1037 = .ok (.iaload, 1) := by decide +kernel
theorem dL_law_1038 : decode cL_law 1038 = .ok (.invokevirtual 118, 3) := by decide +kernel
theorem dL_law_1041 : decode cL_law 1041 = .ok (.aload_n 2, 1) := by decide +kernel
theorem dL_law_1042 : decode cL_law 1042 = .ok (.aload_n 0, 1) := by decide +kernel
theorem dL_law_1043 : decode cL_law 1043 = .ok (.iload_n 3, 1) := by decide +kernel
theorem dL_law_1044 : decode cL_law 1044 = .ok (.iconst 1, 1) := by decide +kernel
theorem dL_law_1045 : decode cL_law 1045 = .ok (.iadd, 1) := by decide +kernel
theorem dL_law_1046 : decode cL_law 1046 = .ok (.iaload, 1) := by decide +kernel
theorem dL_law_1047 : decode cL_law 1047 = .ok (.invokevirtual 121, 3) := by decide +kernel
theorem dL_law_1050 : decode cL_law 1050 = .ok (.lcmp, 1) := by decide +kernel
theorem dL_law_1051 : decode cL_law 1051 = .ok (.ifCond .eq 77, 3) := by decide +kernel
theorem dL_law_1054 : decode cL_law 1054 = .ok (.iconst 0, 1) := by decide +kernel
theorem dL_law_1055 : decode cL_law 1055 = .ok (.ireturn, 1) := by decide +kernel
theorem dL_law_1056 : decode cL_law 1056 = .ok (.aload_n 1, 1) := by decide +kernel
theorem dL_law_1057 : decode cL_law 1057 = .ok (.aload_n 0, 1) := by decide +kernel
theorem dL_law_1058 : decode cL_law 1058 = .ok (.iload_n 3, 1) := by decide +kernel
theorem dL_law_1059 : decode cL_law 1059 = .ok (.iconst 1, 1) := by decide +kernel
theorem dL_law_1060 : decode cL_law 1060 = .ok (.iadd, 1) := by decide +kernel
theorem dL_law_1061 : decode cL_law 1061 = .ok (.iaload, 1) := by decide +kernel
theorem dL_law_1062 : decode cL_law 1062 = .ok (.invokevirtual 122, 3) := by decide +kernel
theorem dL_law_1065 : decode cL_law 1065 = .ok (.aload_n 2, 1) := by decide +kernel
theorem dL_law_1066 : decode cL_law 1066 = .ok (.aload_n 0, 1) := by decide +kernel
theorem dL_law_1067 : decode cL_law 1067 = .ok (.iload_n 3, 1) := by decide +kernel
theorem dL_law_1068 : decode cL_law 1068 = .ok (.iconst 1, 1) := by decide +kernel
theorem dL_law_1069 : decode cL_law 1069 = .ok (.iadd, 1) := by decide +kernel
theorem dL_law_1070 : decode cL_law 1070 = .ok (.iaload, 1) := by decide +kernel
theorem dL_law_1071 : decode cL_law 1071 = .ok (.invokevirtual 125, 3) := by decide +kernel
theorem dL_law_1074 : decode cL_law 1074 = .ok (.lcmp, 1) := by decide +kernel
theorem dL_law_1075 : decode cL_law 1075 = .ok (.ifCond .eq 53, 3) := by decide +kernel
theorem dL_law_1078 : decode cL_law 1078 = .ok (.iconst 0, 1) := by decide +kernel
theorem dL_law_1079 : decode cL_law 1079 = .ok (.ireturn, 1) := by decide +kernel
theorem dL_law_1080 : decode cL_law 1080 = .ok (.aload_n 1, 1) := by decide +kernel
theorem dL_law_1081 : decode cL_law 1081 = .ok (.aload_n 0, 1) := by decide +kernel
theorem dL_law_1082 : decode cL_law 1082 = .ok (.iload_n 3, 1) := by decide +kernel
theorem dL_law_1083 : decode cL_law 1083 = .ok (.iconst 1, 1) := by decide +kernel
theorem dL_law_1084 : decode cL_law 1084 = .ok (.iadd, 1) := by decide +kernel
theorem dL_law_1085 : decode cL_law 1085 = .ok (.iaload, 1) := by decide +kernel
theorem dL_law_1086 : decode cL_law 1086 = .ok (.invokevirtual 126, 3) := by decide +kernel
theorem dL_law_1089 : decode cL_law 1089 = .ok (.aload_n 2, 1) := by decide +kernel
theorem dL_law_1090 : decode cL_law 1090 = .ok (.aload_n 0, 1) := by decide +kernel
theorem dL_law_1091 : decode cL_law 1091 = .ok (.iload_n 3, 1) := by decide +kernel
theorem dL_law_1092 : decode cL_law 1092 = .ok (.iconst 1, 1) := by decide +kernel
theorem dL_law_1093 : decode cL_law 1093 = .ok (.iadd, 1) := by decide +kernel
theorem dL_law_1094 : decode cL_law 1094 = .ok (.iaload, 1) := by decide +kernel
theorem dL_law_1095 : decode cL_law 1095 = .ok (.invokevirtual 129, 3) := by decide +kernel
theorem dL_law_1098 : decode cL_law 1098 = .ok (.lcmp, 1) := by decide +kernel
theorem dL_law_1099 : decode cL_law 1099 = .ok (.ifCond .eq 29, 3) := by decide +kernel
theorem dL_law_1102 : decode cL_law 1102 = .ok (.iconst 0, 1) := by decide +kernel
theorem dL_law_1103 : decode cL_law 1103 = .ok (.ireturn, 1) := by decide +kernel
theorem dL_law_1104 : decode cL_law 1104 = .ok (.aload_n 1, 1) := by decide +kernel
theorem dL_law_1105 : decode cL_law 1105 = .ok (.aload_n 0, 1) := by decide +kernel
theorem dL_law_1106 : decode cL_law 1106 = .ok (.iload_n 3, 1) := by decide +kernel
theorem dL_law_1107 : decode cL_law 1107 = .ok (.iconst 1, 1) := by decide +kernel
theorem dL_law_1108 : decode cL_law 1108 = .ok (.iadd, 1) := by decide +kernel
theorem dL_law_1109 : decode cL_law 1109 = .ok (.iaload, 1) := by decide +kernel
theorem dL_law_1110 : decode cL_law 1110 = .ok (.invokevirtual 130, 3) := by decide +kernel
theorem dL_law_1113 : decode cL_law 1113 = .ok (.aload_n 2, 1) := by decide +kernel
theorem dL_law_1114 : decode cL_law 1114 = .ok (.aload_n 0, 1) := by decide +kernel
theorem dL_law_1115 : decode cL_law 1115 = .ok (.iload_n 3, 1) := by decide +kernel
theorem dL_law_1116 : decode cL_law 1116 = .ok (.iconst 1, 1) := by decide +kernel
theorem dL_law_1117 : decode cL_law 1117 = .ok (.iadd, 1) := by decide +kernel
theorem dL_law_1118 : decode cL_law 1118 = .ok (.iaload, 1) := by decide +kernel
theorem dL_law_1119 : decode cL_law 1119 = .ok (.invokevirtual 133, 3) := by decide +kernel
theorem dL_law_1122 : decode cL_law 1122 = .ok (.lcmp, 1) := by decide +kernel
theorem dL_law_1123 : decode cL_law 1123 = .ok (.ifCond .eq 5, 3) := by decide +kernel
theorem dL_law_1126 : decode cL_law 1126 = .ok (.iconst 0, 1) := by decide +kernel
theorem dL_law_1127 : decode cL_law 1127 = .ok (.ireturn, 1) := by decide +kernel
theorem dL_law_1128 : decode cL_law 1128 = .ok (.iinc 3 6, 3) := by decide +kernel
theorem dL_law_1131 : decode cL_law 1131 = .ok (.goto (-1113), 3) := by decide +kernel
theorem dL_law_1134 : decode cL_law 1134 = .ok (.iconst 1, 1) := by decide +kernel
theorem dL_law_1135 : decode cL_law 1135 = .ok (.ireturn, 1) := by decide +kernel
end
section
theorem dX0_init_0 : decode cX0_init 0 = .ok (.aload_n 0, 1) := by decide +kernel
theorem dX0_init_1 : decode cX0_init 1 = .ok (.invokespecial 3, 3) := by decide +kernel
theorem dX0_init_4 : decode cX0_init 4 = .ok (.aload_n 0, 1) := by decide +kernel
theorem dX0_init_5 : decode cX0_init 5 = .ok (.bipush 10, 2) := by decide +kernel
theorem dX0_init_7 : decode cX0_init 7 = .ok (.newarray .int, 2) := by decide +kernel
theorem dX0_init_9 : decode cX0_init 9 = .ok (.putfield 9, 3) := by decide +kernel
theorem dX0_init_12 : decode cX0_init 12 = .ok (.aload_n 0, 1) := by decide +kernel
theorem dX0_init_13 : decode cX0_init 13 = .ok (.bipush 10, 2) := by decide +kernel
theorem dX0_init_15 : decode cX0_init 15 = .ok (.newarray .long, 2) := by decide +kernel
theorem dX0_init_17 : decode cX0_init 17 = .ok (.putfield 15, 3) := by decide +kernel
theorem dX0_init_20 : decode cX0_init 20 = .ok (.aload_n 0, 1) := by decide +kernel
theorem dX0_init_21 : decode cX0_init 21 = .ok (.bipush 10, 2) := by decide +kernel
theorem dX0_init_23 : decode cX0_init 23 = .ok (.newarray .long, 2) := by decide +kernel
theorem dX0_init_25 : decode cX0_init 25 = .ok (.putfield 19, 3) := by decide +kernel
theorem dX0_init_28 : decode cX0_init 28 = .ok (.return_, 1) := by decide +kernel
theorem dX0_clear_0 : decode cX0_clear 0 = .ok (.aload_n 0, 1) := by decide +kernel
theorem dX0_clear_1 : decode cX0_clear 1 = .ok (.iconst 0, 1) := by decide +kernel
theorem dX0_clear_2 : decode cX0_clear 2 = .ok (.putfield 22, 3) := by decide +kernel
theorem dX0_clear_5 : decode cX0_clear 5 = .ok (.return_, 1) := by decide +kernel
theorem dX0_add_0 : decode cX0_add 0 = .ok (.aload_n 0, 1) := by decide +kernel
theorem dX0_add_1 : decode cX0_add 1 = .ok (.getfield 22, 3) := by decide +kernel
theorem dX0_add_4 : decode cX0_add 4 = .ok (.aload_n 0, 1) := by decide +kernel
theorem dX0_add_5 : decode cX0_add 5 = .ok (.getfield 9, 3) := by decide +kernel
theorem dX0_add_8 : decode cX0_add 8 = .ok (.arraylength, 1) := by decide +kernel
theorem dX0_add_9 : decode cX0_add 9 = .ok (.if_icmp .lt 4, 3) := by decide +kernel
theorem dX0_add_12 : decode cX0_add 12 = .ok (.return_, 1) := by decide +kernel
theorem dX0_add_13 : decode cX0_add 13 = .ok (.aload_n 0, 1) := by decide +kernel
theorem dX0_add_14 : decode cX0_add 14 = .ok (.getfield 9, 3) := by decide +kernel
theorem dX0_add_17 : decode cX0_add 17 = .ok (.aload_n 0, 1) := by decide +kernel
theorem dX0_add_18 : decode cX0_add 18 = .ok (.getfield 22, 3) := by decide +kernel
theorem dX0_add_21 : decode cX0_add 21 = .ok (.iload_n 1, 1) := by decide +kernel
theorem dX0_add_22 : decode cX0_add 22 = .ok (.iastore, 1) := by decide +kernel
theorem dX0_add_23 : decode cX0_add 23 = .ok (.aload_n 0, 1) := by decide +kernel
theorem dX0_add_24 : decode cX0_add 24 = .ok (.getfield 15, 3) := by decide +kernel
theorem dX0_add_27 : decode cX0_add 27 = .ok (.aload_n 0, 1) := by decide +kernel
theorem dX0_add_28 : decode cX0_add 28 = .ok (.getfield 22, 3) := by decide +kernel
theorem dX0_add_31 : decode cX0_add 31 = .ok (.lload_n 2, 1) := by decide +kernel
theorem dX0_add_32 : decode cX0_add 32 = .ok (.lastore, 1) := by decide +kernel
theorem dX0_add_33 : decode cX0_add 33 = .ok (.aload_n 0, 1) := by decide +kernel
theorem dX0_add_34 : decode cX0_add 34 = .ok (.getfield 19, 3) := by decide +kernel
theorem dX0_add_37 : decode cX0_add 37 = .ok (.aload_n 0, 1) := by decide +kernel
theorem dX0_add_38 : decode cX0_add 38 = .ok (.getfield 22, 3) := by decide +kernel
theorem dX0_add_41 : decode cX0_add 41 = .ok (.lload 4, 2) := by decide +kernel
theorem dX0_add_43 : decode cX0_add 43 = .ok (.lastore, 1) := by decide +kernel
theorem dX0_add_44 : decode cX0_add 44 = .ok (.aload_n 0, 1) := by decide +kernel
theorem dX0_add_45 : decode cX0_add 45 = .ok (.dup, 1) := by decide +kernel
theorem dX0_add_46 : decode cX0_add 46 = .ok (.getfield 22, 3) := by decide +kernel
theorem dX0_add_49 : decode cX0_add 49 = .ok (.iconst 1, 1) := by decide +kernel
theorem dX0_add_50 : decode cX0_add 50 = .ok (.iadd, 1) := by decide +kernel
theorem dX0_add_51 : decode cX0_add 51 = .ok (.putfield 22, 3) := by decide +kernel
theorem dX0_add_54 : decode cX0_add 54 = .ok (.return_, 1) := by decide +kernel
theorem dX0_having_0 : decode cX0_having 0 = .ok (.iconst 0, 1) := by decide +kernel
theorem dX0_having_1 : decode cX0_having 1 = .ok (.istore_n 3, 1) := by decide +kernel
theorem dX0_having_2 : decode cX0_having 2 = .ok (.iconst 0, 1) := by decide +kernel
theorem dX0_having_3 : decode cX0_having 3 = .ok (.istore 4, 2) := by decide +kernel
theorem dX0_having_5 : decode cX0_having 5 = .ok (.iload 4, 2) := by decide +kernel
theorem dX0_having_7 : decode cX0_having 7 = .ok (.aload_n 0, 1) := by decide +kernel
theorem dX0_having_8 : decode cX0_having 8 = .ok (.getfield 22, 3) := by decide +kernel
theorem dX0_having_11 : decode cX0_having 11 = .ok (.if_icmp .ge 36, 3) := by decide +kernel
theorem dX0_having_14 : decode cX0_having 14 = .ok (.aload_n 0, 1) := by decide +kernel
theorem dX0_having_15 : decode cX0_having 15 = .ok (.getfield 15, 3) := by decide +kernel
theorem dX0_having_18 : decode cX0_having 18 = .ok (.iload 4, 2) := by decide +kernel
theorem dX0_having_20 : decode cX0_having 20 = .ok (.laload, 1) := by decide +kernel
theorem dX0_having_21 : decode cX0_having 21 = .ok (.lload_n 1, 1) := by decide +kernel
theorem dX0_having_22 : decode cX0_having 22 = .ok (.lcmp, 1) := by decide +kernel
theorem dX0_having_23 : decode cX0_having 23 = .ok (.ifCond .gt 18, 3) := by decide +kernel
theorem dX0_having_26 : decode cX0_having 26 = .ok (.lload_n 1, 1) := by decide +kernel
theorem dX0_having_27 : decode cX0_having 27 = .ok (.aload_n 0, 1) := by decide +kernel
theorem dX0_having_28 : decode cX0_having 28 = .ok (.getfield 19, 3) := by decide +kernel
theorem dX0_having_31 : decode cX0_having 31 = .ok (.iload 4, 2) := by decide +kernel
theorem dX0_having_33 : decode cX0_having 33 = .ok (.laload, 1) := by decide +kernel
theorem dX0_having_34 : decode cX0_having 34 = .ok (.lcmp, 1) := by decide +kernel
theorem dX0_having_35 : decode cX0_having 35 = .ok (.ifCond .gt 6, 3) := by decide +kernel
theorem dX0_having_38 : decode cX0_having 38 = .ok (.iinc 3 1, 3) := by decide +kernel
theorem dX0_having_41 : decode cX0_having 41 = .ok (.iinc 4 1, 3) := by decide +kernel
theorem dX0_having_44 : decode cX0_having 44 = .ok (.goto (-39), 3) := by decide +kernel
theorem dX0_having_47 : decode cX0_having 47 = .ok (.iload_n 3, 1) := by decide +kernel
theorem dX0_having_48 : decode cX0_having 48 = .ok (.ireturn, 1) := by decide +kernel
theorem dX0_least_0 : decode cX0_least 0 = .ok (.ldc2_w 26, 3) := by decide +kernel
theorem dX0_least_3 : decode cX0_least 3 = .ok (.lstore_n 2, 1) := by decide +kernel
theorem dX0_least_4 : decode cX0_least 4 = .ok (.iconst 0, 1) := by decide +kernel
theorem dX0_least_5 : decode cX0_least 5 = .ok (.istore 4, 2) := by decide +kernel
theorem dX0_least_7 : decode cX0_least 7 = .ok (.iload 4, 2) := by decide +kernel
theorem dX0_least_9 : decode cX0_least 9 = .ok (.aload_n 0, 1) := by decide +kernel
theorem dX0_least_10 : decode cX0_least 10 = .ok (.getfield 22, 3) := by decide +kernel
theorem dX0_least_13 : decode cX0_least 13 = .ok (.if_icmp .ge 52, 3) := by decide +kernel
theorem dX0_least_16 : decode cX0_least 16 = .ok (.aload_n 0, 1) := by decide +kernel
theorem dX0_least_17 : decode cX0_least 17 = .ok (.aload_n 0, 1) := by decide +kernel
theorem dX0_least_18 : decode cX0_least 18 = .ok (.getfield 15, 3) := by decide +kernel
theorem dX0_least_21 : decode cX0_least 21 = .ok (.iload 4, 2) := by decide +kernel
theorem dX0_least_23 : decode cX0_least 23 = .ok (.laload, 1) := by decide +kernel
theorem dX0_least_24 : decode cX0_least 24 = .ok (.invokevirtual 28, 3) := by decide +kernel
theorem dX0_least_27 : decode cX0_least 27 = .ok (.iload_n 1, 1) := by decide +kernel
theorem dX0_least_28 : decode cX0_least 28 = .ok (.if_icmp .lt 31, 3) := by decide +kernel
theorem dX0_least_31 : decode cX0_least 31 = .ok (.lload_n 2, 1) := by decide +kernel
theorem dX0_least_32 : decode cX0_least 32 = .ok (.ldc2_w 26, 3) := by decide +kernel
theorem dX0_least_35 : decode cX0_least 35 = .ok (.lcmp, 1) := by decide +kernel
theorem dX0_least_36 : decode cX0_least 36 = .ok (.ifCond .eq 15, 3) := by decide +kernel
theorem dX0_least_39 : decode cX0_least 39 = .ok (.aload_n 0, 1) := by decide +kernel
theorem dX0_least_40 : decode cX0_least 40 = .ok (.getfield 15, 3) := by decide +kernel
theorem dX0_least_43 : decode cX0_least 43 = .ok (.iload 4, 2) := by decide +kernel
theorem dX0_least_45 : decode cX0_least 45 = .ok (.laload, 1) := by decide +kernel
theorem dX0_least_46 : decode cX0_least 46 = .ok (.lload_n 2, 1) := by decide +kernel
theorem dX0_least_47 : decode cX0_least 47 = .ok (.lcmp, 1) := by decide +kernel
theorem dX0_least_48 : decode cX0_least 48 = .ok (.ifCond .ge 11, 3) := by decide +kernel
theorem dX0_least_51 : decode cX0_least 51 = .ok (.aload_n 0, 1) := by decide +kernel
theorem dX0_least_52 : decode cX0_least 52 = .ok (.getfield 15, 3) := by decide +kernel
theorem dX0_least_55 : decode cX0_least 55 = .ok (.iload 4, 2) := by decide +kernel
theorem dX0_least_57 : decode cX0_least 57 = .ok (.laload, 1) := by decide +kernel
theorem dX0_least_58 : decode cX0_least 58 = .ok (.lstore_n 2, 1) := by decide +kernel
theorem dX0_least_59 : decode cX0_least 59 = .ok (.iinc 4 1, 3) := by decide +kernel
theorem dX0_least_62 : decode cX0_least 62 = .ok (.goto (-55), 3) := by decide +kernel
theorem dX0_least_65 : decode cX0_least 65 = .ok (.lload_n 2, 1) := by decide +kernel
theorem dX0_least_66 : decode cX0_least 66 = .ok (.lreturn, 1) := by decide +kernel
theorem dX0_greatest_0 : decode cX0_greatest 0 = .ok (.ldc2_w 26, 3) := by decide +kernel
theorem dX0_greatest_3 : decode cX0_greatest 3 = .ok (.lstore_n 2, 1) := by decide +kernel
theorem dX0_greatest_4 : decode cX0_greatest 4 = .ok (.iconst 0, 1) := by decide +kernel
theorem dX0_greatest_5 : decode cX0_greatest 5 = .ok (.istore 4, 2) := by decide +kernel
theorem dX0_greatest_7 : decode cX0_greatest 7 = .ok (.iload 4, 2) := by decide +kernel
theorem dX0_greatest_9 : decode cX0_greatest 9 = .ok (.aload_n 0, 1) := by decide +kernel
theorem dX0_greatest_10 : decode cX0_greatest 10 = .ok (.getfield 22, 3) := by decide +kernel
theorem dX0_greatest_13 : decode cX0_greatest 13 = .ok (.if_icmp .ge 52, 3) := by decide +kernel
theorem dX0_greatest_16 : decode cX0_greatest 16 = .ok (.aload_n 0, 1) := by decide +kernel
theorem dX0_greatest_17 : decode cX0_greatest 17 = .ok (.aload_n 0, 1) := by decide +kernel
theorem dX0_greatest_18 : decode cX0_greatest 18 = .ok (.getfield 19, 3) := by decide +kernel
theorem dX0_greatest_21 : decode cX0_greatest 21 = .ok (.iload 4, 2) := by decide +kernel
theorem dX0_greatest_23 : decode cX0_greatest 23 = .ok (.laload, 1) := by decide +kernel
theorem dX0_greatest_24 : decode cX0_greatest 24 = .ok (.invokevirtual 28, 3) := by decide +kernel
theorem dX0_greatest_27 : decode cX0_greatest 27 = .ok (.iload_n 1, 1) := by decide +kernel
theorem dX0_greatest_28 : decode cX0_greatest 28 = .ok (.if_icmp .lt 31, 3) := by decide +kernel
theorem dX0_greatest_31 : decode cX0_greatest 31 = .ok (.lload_n 2, 1) := by decide +kernel
theorem dX0_greatest_32 : decode cX0_greatest 32 = .ok (.ldc2_w 26, 3) := by decide +kernel
theorem dX0_greatest_35 : decode cX0_greatest 35 = .ok (.lcmp, 1) := by decide +kernel
theorem dX0_greatest_36 : decode cX0_greatest 36 = .ok (.ifCond .eq 15, 3) := by decide +kernel
theorem dX0_greatest_39 : decode cX0_greatest 39 = .ok (.aload_n 0, 1) := by decide +kernel
theorem dX0_greatest_40 : decode cX0_greatest 40 = .ok (.getfield 19, 3) := by decide +kernel
theorem dX0_greatest_43 : decode cX0_greatest 43 = .ok (.iload 4, 2) := by decide +kernel
theorem dX0_greatest_45 : decode cX0_greatest 45 = .ok (.laload, 1) := by decide +kernel
theorem dX0_greatest_46 : decode cX0_greatest 46 = .ok (.lload_n 2, 1) := by decide +kernel
theorem dX0_greatest_47 : decode cX0_greatest 47 = .ok (.lcmp, 1) := by decide +kernel
theorem dX0_greatest_48 : decode cX0_greatest 48 = .ok (.ifCond .le 11, 3) := by decide +kernel
theorem dX0_greatest_51 : decode cX0_greatest 51 = .ok (.aload_n 0, 1) := by decide +kernel
theorem dX0_greatest_52 : decode cX0_greatest 52 = .ok (.getfield 19, 3) := by decide +kernel
theorem dX0_greatest_55 : decode cX0_greatest 55 = .ok (.iload 4, 2) := by decide +kernel
theorem dX0_greatest_57 : decode cX0_greatest 57 = .ok (.laload, 1) := by decide +kernel
theorem dX0_greatest_58 : decode cX0_greatest 58 = .ok (.lstore_n 2, 1) := by decide +kernel
theorem dX0_greatest_59 : decode cX0_greatest 59 = .ok (.iinc 4 1, 3) := by decide +kernel
theorem dX0_greatest_62 : decode cX0_greatest 62 = .ok (.goto (-55), 3) := by decide +kernel
theorem dX0_greatest_65 : decode cX0_greatest 65 = .ok (.lload_n 2, 1) := by decide +kernel
theorem dX0_greatest_66 : decode cX0_greatest 66 = .ok (.lreturn, 1) := by decide +kernel
theorem dX0_pieces_0 : decode cX0_pieces 0 = .ok (.iconst 0, 1) := by decide +kernel
theorem dX0_pieces_1 : decode cX0_pieces 1 = .ok (.istore_n 2, 1) := by decide +kernel
theorem dX0_pieces_2 : decode cX0_pieces 2 = .ok (.iconst 0, 1) := by decide +kernel
theorem dX0_pieces_3 : decode cX0_pieces 3 = .ok (.istore_n 3, 1) := by decide +kernel
theorem dX0_pieces_4 : decode cX0_pieces 4 = .ok (.iload_n 3, 1) := by decide +kernel
theorem dX0_pieces_5 : decode cX0_pieces 5 = .ok (.aload_n 0, 1) := by decide +kernel
theorem dX0_pieces_6 : decode cX0_pieces 6 = .ok (.getfield 22, 3) := by decide +kernel
theorem dX0_pieces_9 : decode cX0_pieces 9 = .ok (.if_icmp .ge 62, 3) := by decide +kernel
theorem dX0_pieces_12 : decode cX0_pieces 12 = .ok (.aload_n 0, 1) := by decide +kernel
theorem dX0_pieces_13 : decode cX0_pieces 13 = .ok (.aload_n 0, 1) := by decide +kernel
theorem dX0_pieces_14 : decode cX0_pieces 14 = .ok (.getfield 15, 3) := by decide +kernel
theorem dX0_pieces_17 : decode cX0_pieces 17 = .ok (.iload_n 3, 1) := by decide +kernel
theorem dX0_pieces_18 : decode cX0_pieces 18 = .ok (.laload, 1) := by decide +kernel
theorem dX0_pieces_19 : decode cX0_pieces 19 = .ok (.invokevirtual 28, 3) := by decide +kernel
theorem dX0_pieces_22 : decode cX0_pieces 22 = .ok (.iload_n 1, 1) := by decide +kernel
theorem dX0_pieces_23 : decode cX0_pieces 23 = .ok (.if_icmp .lt 23, 3) := by decide +kernel
theorem dX0_pieces_26 : decode cX0_pieces 26 = .ok (.aload_n 0, 1) := by decide +kernel
theorem dX0_pieces_27 : decode cX0_pieces 27 = .ok (.aload_n 0, 1) := by decide +kernel
theorem dX0_pieces_28 : decode cX0_pieces 28 = .ok (.getfield 15, 3) := by decide +kernel
theorem dX0_pieces_31 : decode cX0_pieces 31 = .ok (.iload_n 3, 1) := by decide +kernel
theorem dX0_pieces_32 : decode cX0_pieces 32 = .ok (.laload, 1) := by decide +kernel
theorem dX0_pieces_33 : decode cX0_pieces 33 = .ok (.lconst 1, 1) := by decide +kernel
theorem dX0_pieces_34 : decode cX0_pieces 34 = .ok (.lsub, 1) := by decide +kernel
theorem dX0_pieces_35 : decode cX0_pieces 35 = .ok (.invokevirtual 28, 3) := by decide +kernel
theorem dX0_pieces_38 : decode cX0_pieces 38 = .ok (.iload_n 1, 1) := by decide +kernel
theorem dX0_pieces_39 : decode cX0_pieces 39 = .ok (.if_icmp .ge 7, 3) := by decide +kernel
theorem dX0_pieces_42 : decode cX0_pieces 42 = .ok (.iconst 1, 1) := by decide +kernel
theorem dX0_pieces_43 : decode cX0_pieces 43 = .ok (.goto 4, 3) := by decide +kernel
theorem dX0_pieces_46 : decode cX0_pieces 46 = .ok (.iconst 0, 1) := by decide +kernel
theorem dX0_pieces_47 : decode cX0_pieces 47 = .ok (.istore 4, 2) := by decide +kernel
theorem dX0_pieces_49 : decode cX0_pieces 49 = .ok (.iload 4, 2) := by decide +kernel
theorem dX0_pieces_51 : decode cX0_pieces 51 = .ok (.ifCond .eq 14, 3) := by decide +kernel
theorem dX0_pieces_54 : decode cX0_pieces 54 = .ok (.aload_n 0, 1) := by decide +kernel
theorem dX0_pieces_55 : decode cX0_pieces 55 = .ok (.iload_n 3, 1) := by decide +kernel
theorem dX0_pieces_56 : decode cX0_pieces 56 = .ok (.invokevirtual 32, 3) := by decide +kernel
theorem dX0_pieces_59 : decode cX0_pieces 59 = .ok (.ifCond .ne 6, 3) := by decide +kernel
theorem dX0_pieces_62 : decode cX0_pieces 62 = .ok (.iinc 2 1, 3) := by decide +kernel
theorem dX0_pieces_65 : decode cX0_pieces 65 = .ok (.iinc 3 1, 3) := by decide +kernel
theorem dX0_pieces_68 : decode cX0_pieces 68 = .ok (.goto (-64), 3) := by decide +kernel
theorem dX0_pieces_71 : decode cX0_pieces 71 = .ok (.iload_n 2, 1) := by decide +kernel
theorem dX0_pieces_72 : decode cX0_pieces 72 = .ok (.ireturn, 1) := by decide +kernel
theorem dX0_beganBefore_0 : decode cX0_beganBefore 0 = .ok (.iconst 0, 1) := by decide +kernel
theorem dX0_beganBefore_1 : decode cX0_beganBefore 1 = .ok (.istore_n 2, 1) := by decide +kernel
theorem dX0_beganBefore_2 : decode cX0_beganBefore 2 = .ok (.iload_n 2, 1) := by decide +kernel
theorem dX0_beganBefore_3 : decode cX0_beganBefore 3 = .ok (.iload_n 1, 1) := by decide +kernel
theorem dX0_beganBefore_4 : decode cX0_beganBefore 4 = .ok (.if_icmp .ge 27, 3) := by decide +kernel
theorem dX0_beganBefore_7 : decode cX0_beganBefore 7 = .ok (.aload_n 0, 1) := by decide +kernel
theorem dX0_beganBefore_8 : decode cX0_beganBefore 8 = .ok (.getfield 15, 3) := by decide +kernel
theorem dX0_beganBefore_11 : decode cX0_beganBefore 11 = .ok (.iload_n 2, 1) := by decide +kernel
theorem dX0_beganBefore_12 : decode cX0_beganBefore 12 = .ok (.laload, 1) := by decide +kernel
theorem dX0_beganBefore_13 : decode cX0_beganBefore 13 = .ok (.aload_n 0, 1) := by decide +kernel
theorem dX0_beganBefore_14 : decode cX0_beganBefore 14 = .ok (.getfield 15, 3) := by decide +kernel
theorem dX0_beganBefore_17 : decode cX0_beganBefore 17 = .ok (.iload_n 1, 1) := by decide +kernel
theorem dX0_beganBefore_18 : decode cX0_beganBefore 18 = .ok (.laload, 1) := by decide +kernel
theorem dX0_beganBefore_19 : decode cX0_beganBefore 19 = .ok (.lcmp, 1) := by decide +kernel
theorem dX0_beganBefore_20 : decode cX0_beganBefore 20 = .ok (.ifCond .ne 5, 3) := by decide +kernel
theorem dX0_beganBefore_23 : decode cX0_beganBefore 23 = .ok (.iconst 1, 1) := by decide +kernel
theorem dX0_beganBefore_24 : decode cX0_beganBefore 24 = .ok (.ireturn, 1) := by decide +kernel
theorem dX0_beganBefore_25 : decode cX0_beganBefore 25 = .ok (.iinc 2 1, 3) := by decide +kernel
theorem dX0_beganBefore_28 : decode cX0_beganBefore 28 = .ok (.goto (-26), 3) := by decide +kernel
theorem dX0_beganBefore_31 : decode cX0_beganBefore 31 = .ok (.iconst 0, 1) := by decide +kernel
theorem dX0_beganBefore_32 : decode cX0_beganBefore 32 = .ok (.ireturn, 1) := by decide +kernel
theorem dX0_apartFrom_0 : decode cX0_apartFrom 0 = .ok (.iconst 0, 1) := by decide +kernel
theorem dX0_apartFrom_1 : decode cX0_apartFrom 1 = .ok (.istore 5, 2) := by decide +kernel
theorem dX0_apartFrom_3 : decode cX0_apartFrom 3 = .ok (.iconst 0, 1) := by decide +kernel
theorem dX0_apartFrom_4 : decode cX0_apartFrom 4 = .ok (.istore 6, 2) := by decide +kernel
theorem dX0_apartFrom_6 : decode cX0_apartFrom 6 = .ok (.iload 6, 2) := by decide +kernel
theorem dX0_apartFrom_8 : decode cX0_apartFrom 8 = .ok (.aload_n 0, 1) := by decide +kernel
theorem dX0_apartFrom_9 : decode cX0_apartFrom 9 = .ok (.getfield 22, 3) := by decide +kernel
theorem dX0_apartFrom_12 : decode cX0_apartFrom 12 = .ok (.if_icmp .ge 47, 3) := by decide +kernel
theorem dX0_apartFrom_15 : decode cX0_apartFrom 15 = .ok (.aload_n 0, 1) := by decide +kernel
theorem dX0_apartFrom_16 : decode cX0_apartFrom 16 = .ok (.getfield 19, 3) := by decide +kernel
theorem dX0_apartFrom_19 : decode cX0_apartFrom 19 = .ok (.iload 6, 2) := by decide +kernel
theorem dX0_apartFrom_21 : decode cX0_apartFrom 21 = .ok (.laload, 1) := by decide +kernel
theorem dX0_apartFrom_22 : decode cX0_apartFrom 22 = .ok (.lload_n 1, 1) := by decide +kernel
theorem dX0_apartFrom_23 : decode cX0_apartFrom 23 = .ok (.lcmp, 1) := by decide +kernel
theorem dX0_apartFrom_24 : decode cX0_apartFrom 24 = .ok (.ifCond .lt 15, 3) := by decide +kernel
theorem dX0_apartFrom_27 : decode cX0_apartFrom 27 = .ok (.aload_n 0, 1) := by decide +kernel
theorem dX0_apartFrom_28 : decode cX0_apartFrom 28 = .ok (.getfield 15, 3) := by decide +kernel
theorem dX0_apartFrom_31 : decode cX0_apartFrom 31 = .ok (.iload 6, 2) := by decide +kernel
theorem dX0_apartFrom_33 : decode cX0_apartFrom 33 = .ok (.laload, 1) := by decide +kernel
theorem dX0_apartFrom_34 : decode cX0_apartFrom 34 = .ok (.lload_n 3, 1) := by decide +kernel
theorem dX0_apartFrom_35 : decode cX0_apartFrom 35 = .ok (.lcmp, 1) := by decide +kernel
theorem dX0_apartFrom_36 : decode cX0_apartFrom 36 = .ok (.ifCond .le 17, 3) := by decide +kernel
theorem dX0_apartFrom_39 : decode cX0_apartFrom 39 = .ok (.iload 5, 2) := by decide +kernel
theorem dX0_apartFrom_41 : decode cX0_apartFrom 41 = .ok (.iconst 1, 1) := by decide +kernel
theorem dX0_apartFrom_42 : decode cX0_apartFrom 42 = .ok (.aload_n 0, 1) := by decide +kernel
theorem dX0_apartFrom_43 : decode cX0_apartFrom 43 = .ok (.getfield 9, 3) := by decide +kernel
theorem dX0_apartFrom_46 : decode cX0_apartFrom 46 = .ok (.iload 6, 2) := by decide +kernel
theorem dX0_apartFrom_48 : decode cX0_apartFrom 48 = .ok (.iaload, 1) := by decide +kernel
theorem dX0_apartFrom_49 : decode cX0_apartFrom 49 = .ok (.ishl, 1) := by decide +kernel
theorem dX0_apartFrom_50 : decode cX0_apartFrom 50 = .ok (.ior, 1) := by decide +kernel
theorem dX0_apartFrom_51 : decode cX0_apartFrom 51 = .ok (.istore 5, 2) := by decide +kernel
theorem dX0_apartFrom_53 : decode cX0_apartFrom 53 = .ok (.iinc 6 1, 3) := by decide +kernel
theorem dX0_apartFrom_56 : decode cX0_apartFrom 56 = .ok (.goto (-50), 3) := by decide +kernel
theorem dX0_apartFrom_59 : decode cX0_apartFrom 59 = .ok (.iload 5, 2) := by decide +kernel
theorem dX0_apartFrom_61 : decode cX0_apartFrom 61 = .ok (.ireturn, 1) := by decide +kernel
end
section
theorem dX1_init_0 : decode cX1_init 0 = .ok (.aload_n 0, 1) := by decide +kernel
theorem dX1_init_1 : decode cX1_init 1 = .ok (.invokespecial 3, 3) := by decide +kernel
theorem dX1_init_4 : decode cX1_init 4 = .ok (.aload_n 0, 1) := by decide +kernel
theorem dX1_init_5 : decode cX1_init 5 = .ok (.aload_n 1, 1) := by decide +kernel
theorem dX1_init_6 : decode cX1_init 6 = .ok (.putfield 9, 3) := by decide +kernel
theorem dX1_init_9 : decode cX1_init 9 = .ok (.aload_n 0, 1) := by decide +kernel
theorem dX1_init_10 : decode cX1_init 10 = .ok (.aload_n 2, 1) := by decide +kernel
theorem dX1_init_11 : decode cX1_init 11 = .ok (.putfield 15, 3) := by decide +kernel
theorem dX1_init_14 : decode cX1_init 14 = .ok (.aload_n 0, 1) := by decide +kernel
theorem dX1_init_15 : decode cX1_init 15 = .ok (.lload_n 3, 1) := by decide +kernel
theorem dX1_init_16 : decode cX1_init 16 = .ok (.putfield 18, 3) := by decide +kernel
theorem dX1_init_19 : decode cX1_init 19 = .ok (.aload_n 0, 1) := by decide +kernel
theorem dX1_init_20 : decode cX1_init 20 = .ok (.iconst 0, 1) := by decide +kernel
theorem dX1_init_21 : decode cX1_init 21 = .ok (.putfield 22, 3) := by decide +kernel
theorem dX1_init_24 : decode cX1_init 24 = .ok (.return_, 1) := by decide +kernel
theorem dX1_isUnderWay_0 : decode cX1_isUnderWay 0 = .ok (.aload_n 0, 1) := by decide +kernel
theorem dX1_isUnderWay_1 : decode cX1_isUnderWay 1 = .ok (.getfield 22, 3) := by decide +kernel
theorem dX1_isUnderWay_4 : decode cX1_isUnderWay 4 = .ok (.ifCond .eq 11, 3) := by decide +kernel
theorem dX1_isUnderWay_7 : decode cX1_isUnderWay 7 = .ok (.aload_n 0, 1) := by decide +kernel
theorem dX1_isUnderWay_8 : decode cX1_isUnderWay 8 = .ok (.getfield 22, 3) := by decide +kernel
theorem dX1_isUnderWay_11 : decode cX1_isUnderWay 11 = .ok (.iconst 1, 1) := by decide +kernel
theorem dX1_isUnderWay_12 : decode cX1_isUnderWay 12 = .ok (.if_icmp .ne 7, 3) := by decide +kernel
theorem dX1_isUnderWay_15 : decode cX1_isUnderWay 15 = .ok (.iconst 1, 1) := by decide +kernel
theorem dX1_isUnderWay_16 : decode cX1_isUnderWay 16 = .ok (.goto 4, 3) := by decide +kernel
theorem dX1_isUnderWay_19 : decode cX1_isUnderWay 19 = .ok (.iconst 0, 1) := by decide +kernel
theorem dX1_isUnderWay_20 : decode cX1_isUnderWay 20 = .ok (.ireturn, 1) := by decide +kernel
theorem dX1_takeAnswer_0 : decode cX1_takeAnswer 0 = .ok (.aload_n 0, 1) := by decide +kernel
theorem dX1_takeAnswer_1 : decode cX1_takeAnswer 1 = .ok (.getfield 15, 3) := by decide +kernel
theorem dX1_takeAnswer_4 : decode cX1_takeAnswer 4 = .ok (.getfield 26, 3) := by decide +kernel
theorem dX1_takeAnswer_7 : decode cX1_takeAnswer 7 = .ok (.iconst 4, 1) := by decide +kernel
theorem dX1_takeAnswer_8 : decode cX1_takeAnswer 8 = .ok (.if_icmp .ne 7, 3) := by decide +kernel
theorem dX1_takeAnswer_11 : decode cX1_takeAnswer 11 = .ok (.iconst 1, 1) := by decide +kernel
theorem dX1_takeAnswer_12 : decode cX1_takeAnswer 12 = .ok (.goto 4, 3) := by decide +kernel
theorem dX1_takeAnswer_15 : decode cX1_takeAnswer 15 = .ok (.iconst 0, 1) := by decide +kernel
theorem dX1_takeAnswer_16 : decode cX1_takeAnswer 16 = .ok (.istore_n 3, 1) := by decide +kernel
theorem dX1_takeAnswer_17 : decode cX1_takeAnswer 17 = .ok (.aload_n 0, 1) := by decide +kernel
theorem dX1_takeAnswer_18 : decode cX1_takeAnswer 18 = .ok (.iload_n 3, 1) := by decide +kernel
theorem dX1_takeAnswer_19 : decode cX1_takeAnswer 19 = .ok (.ifCond .eq 13, 3) := by decide +kernel
theorem dX1_takeAnswer_22 : decode cX1_takeAnswer 22 = .ok (.aload_n 0, 1) := by decide +kernel
theorem dX1_takeAnswer_23 : decode cX1_takeAnswer 23 = .ok (.getfield 15, 3) := by decide +kernel
theorem dX1_takeAnswer_26 : decode cX1_takeAnswer 26 = .ok (.getfield 31, 3) := by decide +kernel
theorem dX1_takeAnswer_29 : decode cX1_takeAnswer 29 = .ok (.goto 11, 3) := by decide +kernel
theorem dX1_takeAnswer_32 : decode cX1_takeAnswer 32 = .ok (.aload_n 0, 1) := by decide +kernel
theorem dX1_takeAnswer_33 : decode cX1_takeAnswer 33 = .ok (.getfield 15, 3) := by decide +kernel
theorem dX1_takeAnswer_36 : decode cX1_takeAnswer 36 = .ok (.lload_n 1, 1) := by decide +kernel
theorem dX1_takeAnswer_37 : decode cX1_takeAnswer 37 = .ok (.invokevirtual 34, 3) := by decide +kernel
theorem dX1_takeAnswer_40 : decode cX1_takeAnswer 40 = .ok (.putfield 38, 3) := by decide +kernel
theorem dX1_takeAnswer_43 : decode cX1_takeAnswer 43 = .ok (.aload_n 0, 1) := by decide +kernel
theorem dX1_takeAnswer_44 : decode cX1_takeAnswer 44 = .ok (.iload_n 3, 1) := by decide +kernel
theorem dX1_takeAnswer_45 : decode cX1_takeAnswer 45 = .ok (.ifCond .eq 13, 3) := by decide +kernel
theorem dX1_takeAnswer_48 : decode cX1_takeAnswer 48 = .ok (.aload_n 0, 1) := by decide +kernel
theorem dX1_takeAnswer_49 : decode cX1_takeAnswer 49 = .ok (.getfield 15, 3) := by decide +kernel
theorem dX1_takeAnswer_52 : decode cX1_takeAnswer 52 = .ok (.getfield 41, 3) := by decide +kernel
theorem dX1_takeAnswer_55 : decode cX1_takeAnswer 55 = .ok (.goto 11, 3) := by decide +kernel
theorem dX1_takeAnswer_58 : decode cX1_takeAnswer 58 = .ok (.aload_n 0, 1) := by decide +kernel
theorem dX1_takeAnswer_59 : decode cX1_takeAnswer 59 = .ok (.getfield 15, 3) := by decide +kernel
theorem dX1_takeAnswer_62 : decode cX1_takeAnswer 62 = .ok (.lload_n 1, 1) := by decide +kernel
theorem dX1_takeAnswer_63 : decode cX1_takeAnswer 63 = .ok (.invokevirtual 44, 3) := by decide +kernel
theorem dX1_takeAnswer_66 : decode cX1_takeAnswer 66 = .ok (.putfield 47, 3) := by decide +kernel
theorem dX1_takeAnswer_69 : decode cX1_takeAnswer 69 = .ok (.aload_n 0, 1) := by decide +kernel
theorem dX1_takeAnswer_70 : decode cX1_takeAnswer 70 = .ok (.iconst 1, 1) := by decide +kernel
theorem dX1_takeAnswer_71 : decode cX1_takeAnswer 71 = .ok (.putfield 50, 3) := by decide +kernel
theorem dX1_takeAnswer_74 : decode cX1_takeAnswer 74 = .ok (.aload_n 0, 1) := by decide +kernel
theorem dX1_takeAnswer_75 : decode cX1_takeAnswer 75 = .ok (.iconst 1, 1) := by decide +kernel
theorem dX1_takeAnswer_76 : decode cX1_takeAnswer 76 = .ok (.putfield 22, 3) := by decide +kernel
theorem dX1_takeAnswer_79 : decode cX1_takeAnswer 79 = .ok (.return_, 1) := by decide +kernel
theorem dX1_bringBack_0 : decode cX1_bringBack 0 = .ok (.aload_n 0, 1) := by decide +kernel
theorem dX1_bringBack_1 : decode cX1_bringBack 1 = .ok (.getfield 9, 3) := by decide +kernel
theorem dX1_bringBack_4 : decode cX1_bringBack 4 = .ok (.lload_n 1, 1) := by decide +kernel
theorem dX1_bringBack_5 : decode cX1_bringBack 5 = .ok (.invokevirtual 54, 3) := by decide +kernel
theorem dX1_bringBack_8 : decode cX1_bringBack 8 = .ok (.lstore_n 3, 1) := by decide +kernel
theorem dX1_bringBack_9 : decode cX1_bringBack 9 = .ok (.aload_n 0, 1) := by decide +kernel
theorem dX1_bringBack_10 : decode cX1_bringBack 10 = .ok (.getfield 9, 3) := by decide +kernel
theorem dX1_bringBack_13 : decode cX1_bringBack 13 = .ok (.aload_n 0, 1) := by decide +kernel
theorem dX1_bringBack_14 : decode cX1_bringBack 14 = .ok (.getfield 15, 3) := by decide +kernel
theorem dX1_bringBack_17 : decode cX1_bringBack 17 = .ok (.getfield 57, 3) := by decide +kernel
theorem dX1_bringBack_20 : decode cX1_bringBack 20 = .ok (.aload_n 0, 1) := by decide +kernel
theorem dX1_bringBack_21 : decode cX1_bringBack 21 = .ok (.getfield 38, 3) := by decide +kernel
theorem dX1_bringBack_24 : decode cX1_bringBack 24 = .ok (.aload_n 0, 1) := by decide +kernel
theorem dX1_bringBack_25 : decode cX1_bringBack 25 = .ok (.getfield 47, 3) := by decide +kernel
theorem dX1_bringBack_28 : decode cX1_bringBack 28 = .ok (.lload_n 3, 1) := by decide +kernel
theorem dX1_bringBack_29 : decode cX1_bringBack 29 = .ok (.aload_n 0, 1) := by decide +kernel
theorem dX1_bringBack_30 : decode cX1_bringBack 30 = .ok (.getfield 18, 3) := by decide +kernel
theorem dX1_bringBack_33 : decode cX1_bringBack 33 = .ok (.lsub, 1) := by decide +kernel
theorem dX1_bringBack_34 : decode cX1_bringBack 34 = .ok (.aload_n 0, 1) := by decide +kernel
theorem dX1_bringBack_35 : decode cX1_bringBack 35 = .ok (.getfield 9, 3) := by decide +kernel
theorem dX1_bringBack_38 : decode cX1_bringBack 38 = .ok (.getfield 60, 3) := by decide +kernel
theorem dX1_bringBack_41 : decode cX1_bringBack 41 = .ok (.invokestatic 63, 3) := by decide +kernel
theorem dX1_bringBack_44 : decode cX1_bringBack 44 = .ok (.ladd, 1) := by decide +kernel
theorem dX1_bringBack_45 : decode cX1_bringBack 45 = .ok (.lload_n 3, 1) := by decide +kernel
theorem dX1_bringBack_46 : decode cX1_bringBack 46 = .ok (.invokevirtual 67, 3) := by decide +kernel
theorem dX1_bringBack_49 : decode cX1_bringBack 49 = .ok (.aload_n 0, 1) := by decide +kernel
theorem dX1_bringBack_50 : decode cX1_bringBack 50 = .ok (.iconst 2, 1) := by decide +kernel
theorem dX1_bringBack_51 : decode cX1_bringBack 51 = .ok (.putfield 22, 3) := by decide +kernel
theorem dX1_bringBack_54 : decode cX1_bringBack 54 = .ok (.return_, 1) := by decide +kernel
end
section
theorem dX2_init_0 : decode cX2_init 0 = .ok (.aload_n 0, 1) := by decide +kernel
theorem dX2_init_1 : decode cX2_init 1 = .ok (.invokespecial 3, 3) := by decide +kernel
theorem dX2_init_4 : decode cX2_init 4 = .ok (.aload_n 0, 1) := by decide +kernel
theorem dX2_init_5 : decode cX2_init 5 = .ok (.iload_n 1, 1) := by decide +kernel
theorem dX2_init_6 : decode cX2_init 6 = .ok (.putfield 9, 3) := by decide +kernel
theorem dX2_init_9 : decode cX2_init 9 = .ok (.aload_n 0, 1) := by decide +kernel
theorem dX2_init_10 : decode cX2_init 10 = .ok (.iload_n 2, 1) := by decide +kernel
theorem dX2_init_11 : decode cX2_init 11 = .ok (.putfield 15, 3) := by decide +kernel
theorem dX2_init_14 : decode cX2_init 14 = .ok (.aload_n 0, 1) := by decide +kernel
theorem dX2_init_15 : decode cX2_init 15 = .ok (.iload_n 3, 1) := by decide +kernel
theorem dX2_init_16 : decode cX2_init 16 = .ok (.putfield 18, 3) := by decide +kernel
theorem dX2_init_19 : decode cX2_init 19 = .ok (.aload_n 0, 1) := by decide +kernel
theorem dX2_init_20 : decode cX2_init 20 = .ok (.iload 4, 2) := by decide +kernel
theorem dX2_init_22 : decode cX2_init 22 = .ok (.putfield 21, 3) := by decide +kernel
theorem dX2_init_25 : decode cX2_init 25 = .ok (.aload_n 0, 1) := by decide +kernel
theorem dX2_init_26 : decode cX2_init 26 = .ok (.lload 5, 2) := by decide +kernel
theorem dX2_init_28 : decode cX2_init 28 = .ok (.putfield 24, 3) := by decide +kernel
theorem dX2_init_31 : decode cX2_init 31 = .ok (.aload_n 0, 1) := by decide +kernel
theorem dX2_init_32 : decode cX2_init 32 = .ok (.iconst 1, 1) := by decide +kernel
theorem dX2_init_33 : decode cX2_init 33 = .ok (.putfield 28, 3) := by decide +kernel
theorem dX2_init_36 : decode cX2_init 36 = .ok (.aload_n 0, 1) := by decide +kernel
theorem dX2_init_37 : decode cX2_init 37 = .ok (.iconst 1, 1) := by decide +kernel
theorem dX2_init_38 : decode cX2_init 38 = .ok (.putfield 31, 3) := by decide +kernel
theorem dX2_init_41 : decode cX2_init 41 = .ok (.aload_n 0, 1) := by decide +kernel
theorem dX2_init_42 : decode cX2_init 42 = .ok (.new 34, 3) := by decide +kernel
theorem dX2_init_45 : decode cX2_init 45 = .ok (.dup, 1) := by decide +kernel
theorem dX2_init_46 : decode cX2_init 46 = .ok (.invokespecial 36, 3) := by decide +kernel
theorem dX2_init_49 : decode cX2_init 49 = .ok (.putfield 37, 3) := by decide +kernel
theorem dX2_init_52 : decode cX2_init 52 = .ok (.aload_n 0, 1) := by decide +kernel
theorem dX2_init_53 : decode cX2_init 53 = .ok (.getfield 37, 3) := by decide +kernel
theorem dX2_init_56 : decode cX2_init 56 = .ok (.lload 5, 2) := by decide +kernel
theorem dX2_init_58 : decode cX2_init 58 = .ok (.iload 4, 2) := by decide +kernel
theorem dX2_init_60 : decode cX2_init 60 = .ok (.i2l, 1) := by decide +kernel
theorem dX2_init_61 : decode cX2_init 61 = .ok (.lsub, 1) := by decide +kernel
theorem dX2_init_62 : decode cX2_init 62 = .ok (.lload 5, 2) := by decide +kernel
theorem dX2_init_64 : decode cX2_init 64 = .ok (.iload 4, 2) := by decide +kernel
theorem dX2_init_66 : decode cX2_init 66 = .ok (.i2l, 1) := by decide +kernel
theorem dX2_init_67 : decode cX2_init 67 = .ok (.ladd, 1) := by decide +kernel
theorem dX2_init_68 : decode cX2_init 68 = .ok (.lconst 0, 1) := by decide +kernel
theorem dX2_init_69 : decode cX2_init 69 = .ok (.invokevirtual 41, 3) := by decide +kernel
theorem dX2_init_72 : decode cX2_init 72 = .ok (.aload_n 0, 1) := by decide +kernel
theorem dX2_init_73 : decode cX2_init 73 = .ok (.lload 5, 2) := by decide +kernel
theorem dX2_init_75 : decode cX2_init 75 = .ok (.iload 4, 2) := by decide +kernel
theorem dX2_init_77 : decode cX2_init 77 = .ok (.i2l, 1) := by decide +kernel
theorem dX2_init_78 : decode cX2_init 78 = .ok (.lsub, 1) := by decide +kernel
theorem dX2_init_79 : decode cX2_init 79 = .ok (.putfield 45, 3) := by decide +kernel
theorem dX2_init_82 : decode cX2_init 82 = .ok (.aload_n 0, 1) := by decide +kernel
theorem dX2_init_83 : decode cX2_init 83 = .ok (.bipush 10, 2) := by decide +kernel
theorem dX2_init_85 : decode cX2_init 85 = .ok (.anewarray 34, 3) := by decide +kernel
theorem dX2_init_88 : decode cX2_init 88 = .ok (.putfield 48, 3) := by decide +kernel
theorem dX2_init_91 : decode cX2_init 91 = .ok (.return_, 1) := by decide +kernel
theorem dX2_countedAt_0 : decode cX2_countedAt 0 = .ok (.lload_n 1, 1) := by decide +kernel
theorem dX2_countedAt_1 : decode cX2_countedAt 1 = .ok (.aload_n 0, 1) := by decide +kernel
theorem dX2_countedAt_2 : decode cX2_countedAt 2 = .ok (.getfield 24, 3) := by decide +kernel
theorem dX2_countedAt_5 : decode cX2_countedAt 5 = .ok (.lsub, 1) := by decide +kernel
theorem dX2_countedAt_6 : decode cX2_countedAt 6 = .ok (.aload_n 0, 1) := by decide +kernel
theorem dX2_countedAt_7 : decode cX2_countedAt 7 = .ok (.getfield 28, 3) := by decide +kernel
theorem dX2_countedAt_10 : decode cX2_countedAt 10 = .ok (.i2l, 1) := by decide +kernel
theorem dX2_countedAt_11 : decode cX2_countedAt 11 = .ok (.lmul, 1) := by decide +kernel
theorem dX2_countedAt_12 : decode cX2_countedAt 12 = .ok (.aload_n 0, 1) := by decide +kernel
theorem dX2_countedAt_13 : decode cX2_countedAt 13 = .ok (.getfield 31, 3) := by decide +kernel
theorem dX2_countedAt_16 : decode cX2_countedAt 16 = .ok (.i2l, 1) := by decide +kernel
theorem dX2_countedAt_17 : decode cX2_countedAt 17 = .ok (.invokestatic 52, 3) := by decide +kernel
theorem dX2_countedAt_20 : decode cX2_countedAt 20 = .ok (.lreturn, 1) := by decide +kernel
theorem dX2_lowAt_0 : decode cX2_lowAt 0 = .ok (.aload_n 0, 1) := by decide +kernel
theorem dX2_lowAt_1 : decode cX2_lowAt 1 = .ok (.getfield 15, 3) := by decide +kernel
theorem dX2_lowAt_4 : decode cX2_lowAt 4 = .ok (.iconst 3, 1) := by decide +kernel
theorem dX2_lowAt_5 : decode cX2_lowAt 5 = .ok (.if_icmp .ne 13, 3) := by decide +kernel
theorem dX2_lowAt_8 : decode cX2_lowAt 8 = .ok (.lload_n 1, 1) := by decide +kernel
theorem dX2_lowAt_9 : decode cX2_lowAt 9 = .ok (.aload_n 0, 1) := by decide +kernel
theorem dX2_lowAt_10 : decode cX2_lowAt 10 = .ok (.getfield 21, 3) := by decide +kernel
theorem dX2_lowAt_13 : decode cX2_lowAt 13 = .ok (.i2l, 1) := by decide +kernel
theorem dX2_lowAt_14 : decode cX2_lowAt 14 = .ok (.lsub, 1) := by decide +kernel
theorem dX2_lowAt_15 : decode cX2_lowAt 15 = .ok (.goto 19, 3) := by decide +kernel
theorem dX2_lowAt_18 : decode cX2_lowAt 18 = .ok (.aload_n 0, 1) := by decide +kernel
theorem dX2_lowAt_19 : decode cX2_lowAt 19 = .ok (.getfield 37, 3) := by decide +kernel
theorem dX2_lowAt_22 : decode cX2_lowAt 22 = .ok (.aload_n 0, 1) := by decide +kernel
theorem dX2_lowAt_23 : decode cX2_lowAt 23 = .ok (.lload_n 1, 1) := by decide +kernel
theorem dX2_lowAt_24 : decode cX2_lowAt 24 = .ok (.invokevirtual 56, 3) := by decide +kernel
theorem dX2_lowAt_27 : decode cX2_lowAt 27 = .ok (.aload_n 0, 1) := by decide +kernel
theorem dX2_lowAt_28 : decode cX2_lowAt 28 = .ok (.getfield 18, 3) := by decide +kernel
theorem dX2_lowAt_31 : decode cX2_lowAt 31 = .ok (.invokevirtual 60, 3) := by decide +kernel
theorem dX2_lowAt_34 : decode cX2_lowAt 34 = .ok (.lreturn, 1) := by decide +kernel
theorem dX2_highAt_0 : decode cX2_highAt 0 = .ok (.aload_n 0, 1) := by decide +kernel
theorem dX2_highAt_1 : decode cX2_highAt 1 = .ok (.getfield 15, 3) := by decide +kernel
theorem dX2_highAt_4 : decode cX2_highAt 4 = .ok (.iconst 3, 1) := by decide +kernel
theorem dX2_highAt_5 : decode cX2_highAt 5 = .ok (.if_icmp .ne 13, 3) := by decide +kernel
theorem dX2_highAt_8 : decode cX2_highAt 8 = .ok (.lload_n 1, 1) := by decide +kernel
theorem dX2_highAt_9 : decode cX2_highAt 9 = .ok (.aload_n 0, 1) := by decide +kernel
theorem dX2_highAt_10 : decode cX2_highAt 10 = .ok (.getfield 21, 3) := by decide +kernel
theorem dX2_highAt_13 : decode cX2_highAt 13 = .ok (.i2l, 1) := by decide +kernel
theorem dX2_highAt_14 : decode cX2_highAt 14 = .ok (.ladd, 1) := by decide +kernel
theorem dX2_highAt_15 : decode cX2_highAt 15 = .ok (.goto 19, 3) := by decide +kernel
theorem dX2_highAt_18 : decode cX2_highAt 18 = .ok (.aload_n 0, 1) := by decide +kernel
theorem dX2_highAt_19 : decode cX2_highAt 19 = .ok (.getfield 37, 3) := by decide +kernel
theorem dX2_highAt_22 : decode cX2_highAt 22 = .ok (.aload_n 0, 1) := by decide +kernel
theorem dX2_highAt_23 : decode cX2_highAt 23 = .ok (.lload_n 1, 1) := by decide +kernel
theorem dX2_highAt_24 : decode cX2_highAt 24 = .ok (.invokevirtual 56, 3) := by decide +kernel
theorem dX2_highAt_27 : decode cX2_highAt 27 = .ok (.aload_n 0, 1) := by decide +kernel
theorem dX2_highAt_28 : decode cX2_highAt 28 = .ok (.getfield 18, 3) := by decide +kernel
theorem dX2_highAt_31 : decode cX2_highAt 31 = .ok (.invokevirtual 64, 3) := by decide +kernel
theorem dX2_highAt_34 : decode cX2_highAt 34 = .ok (.lreturn, 1) := by decide +kernel
theorem dX2_holds_0 : decode cX2_holds 0 = .ok (.aload_n 0, 1) := by decide +kernel
theorem dX2_holds_1 : decode cX2_holds 1 = .ok (.lload_n 1, 1) := by decide +kernel
theorem dX2_holds_2 : decode cX2_holds 2 = .ok (.invokevirtual 67, 3) := by decide +kernel
theorem dX2_holds_5 : decode cX2_holds 5 = .ok (.lload_n 1, 1) := by decide +kernel
theorem dX2_holds_6 : decode cX2_holds 6 = .ok (.lcmp, 1) := by decide +kernel
theorem dX2_holds_7 : decode cX2_holds 7 = .ok (.ifCond .gt 17, 3) := by decide +kernel
theorem dX2_holds_10 : decode cX2_holds 10 = .ok (.lload_n 1, 1) := by decide +kernel
theorem dX2_holds_11 : decode cX2_holds 11 = .ok (.aload_n 0, 1) := by decide +kernel
theorem dX2_holds_12 : decode cX2_holds 12 = .ok (.lload_n 1, 1) := by decide +kernel
theorem dX2_holds_13 : decode cX2_holds 13 = .ok (.invokevirtual 70, 3) := by decide +kernel
theorem dX2_holds_16 : decode cX2_holds 16 = .ok (.lcmp, 1) := by decide +kernel
theorem dX2_holds_17 : decode cX2_holds 17 = .ok (.ifCond .gt 7, 3) := by decide +kernel
theorem dX2_holds_20 : decode cX2_holds 20 = .ok (.iconst 1, 1) := by decide +kernel
theorem dX2_holds_21 : decode cX2_holds 21 = .ok (.goto 4, 3) := by decide +kernel
theorem dX2_holds_24 : decode cX2_holds 24 = .ok (.iconst 0, 1) := by decide +kernel
theorem dX2_holds_25 : decode cX2_holds 25 = .ok (.ireturn, 1) := by decide +kernel
theorem dX2_spanOf_0 : decode cX2_spanOf 0 = .ok (.iload_n 1, 1) := by decide +kernel
theorem dX2_spanOf_1 : decode cX2_spanOf 1 = .ok (.ifCond .lt 12, 3) := by decide +kernel
theorem dX2_spanOf_4 : decode cX2_spanOf 4 = .ok (.iload_n 1, 1) := by decide +kernel
theorem dX2_spanOf_5 : decode cX2_spanOf 5 = .ok (.aload_n 0, 1) := by decide +kernel
theorem dX2_spanOf_6 : decode cX2_spanOf 6 = .ok (.getfield 48, 3) := by decide +kernel
theorem dX2_spanOf_9 : decode cX2_spanOf 9 = .ok (.arraylength, 1) := by decide +kernel
theorem dX2_spanOf_10 : decode cX2_spanOf 10 = .ok (.if_icmp .lt 5, 3) := by decide +kernel
theorem dX2_spanOf_13 : decode cX2_spanOf 13 = .ok (.aconst_null, 1) := by decide +kernel
theorem dX2_spanOf_14 : decode cX2_spanOf 14 = .ok (.areturn, 1) := by decide +kernel
theorem dX2_spanOf_15 : decode cX2_spanOf 15 = .ok (.aload_n 0, 1) := by decide +kernel
theorem dX2_spanOf_16 : decode cX2_spanOf 16 = .ok (.getfield 48, 3) := by decide +kernel
theorem dX2_spanOf_19 : decode cX2_spanOf 19 = .ok (.iload_n 1, 1) := by decide +kernel
theorem dX2_spanOf_20 : decode cX2_spanOf 20 = .ok (.aaload, 1) := by decide +kernel
theorem dX2_spanOf_21 : decode cX2_spanOf 21 = .ok (.astore_n 2, 1) := by decide +kernel
theorem dX2_spanOf_22 : decode cX2_spanOf 22 = .ok (.aload_n 2, 1) := by decide +kernel
theorem dX2_spanOf_23 : decode cX2_spanOf 23 = .ok (.ifnull 10, 3) := by decide +kernel
theorem dX2_spanOf_26 : decode cX2_spanOf 26 = .ok (.aload_n 2, 1) := by decide +kernel
theorem dX2_spanOf_27 : decode cX2_spanOf 27 = .ok (.getfield 73, 3) := by decide +kernel
theorem dX2_spanOf_30 : decode cX2_spanOf 30 = .ok (.ifCond .ne 7, 3) := by decide +kernel
theorem dX2_spanOf_33 : decode cX2_spanOf 33 = .ok (.aconst_null, 1) := by decide +kernel
theorem dX2_spanOf_34 : decode cX2_spanOf 34 = .ok (.goto 4, 3) := by decide +kernel
theorem dX2_spanOf_37 : decode cX2_spanOf 37 = .ok (.aload_n 2, 1) := by decide +kernel
theorem dX2_spanOf_38 : decode cX2_spanOf 38 = .ok (.areturn, 1) := by decide +kernel
theorem dX2_hasHeardOf_0 : decode cX2_hasHeardOf 0 = .ok (.aload_n 0, 1) := by decide +kernel
theorem dX2_hasHeardOf_1 : decode cX2_hasHeardOf 1 = .ok (.iload_n 1, 1) := by decide +kernel
theorem dX2_hasHeardOf_2 : decode cX2_hasHeardOf 2 = .ok (.invokevirtual 77, 3) := by decide +kernel
theorem dX2_hasHeardOf_5 : decode cX2_hasHeardOf 5 = .ok (.ifnull 7, 3) := by decide +kernel
theorem dX2_hasHeardOf_8 : decode cX2_hasHeardOf 8 = .ok (.iconst 1, 1) := by decide +kernel
theorem dX2_hasHeardOf_9 : decode cX2_hasHeardOf 9 = .ok (.goto 4, 3) := by decide +kernel
theorem dX2_hasHeardOf_12 : decode cX2_hasHeardOf 12 = .ok (.iconst 0, 1) := by decide +kernel
theorem dX2_hasHeardOf_13 : decode cX2_hasHeardOf 13 = .ok (.ireturn, 1) := by decide +kernel
theorem dX2_heardLowAt_0 : decode cX2_heardLowAt 0 = .ok (.aload_n 0, 1) := by decide +kernel
theorem dX2_heardLowAt_1 : decode cX2_heardLowAt 1 = .ok (.iload_n 1, 1) := by decide +kernel
theorem dX2_heardLowAt_2 : decode cX2_heardLowAt 2 = .ok (.invokevirtual 77, 3) := by decide +kernel
theorem dX2_heardLowAt_5 : decode cX2_heardLowAt 5 = .ok (.astore 4, 2) := by decide +kernel
theorem dX2_heardLowAt_7 : decode cX2_heardLowAt 7 = .ok (.aload 4, 2) := by decide +kernel
theorem dX2_heardLowAt_9 : decode cX2_heardLowAt 9 = .ok (.ifnonnull 9, 3) := by decide +kernel
theorem dX2_heardLowAt_12 : decode cX2_heardLowAt 12 = .ok (.ldc2_w 81, 3) := by decide +kernel
theorem dX2_heardLowAt_15 : decode cX2_heardLowAt 15 = .ok (.goto 17, 3) := by decide +kernel
theorem dX2_heardLowAt_18 : decode cX2_heardLowAt 18 = .ok (.aload 4, 2) := by decide +kernel
theorem dX2_heardLowAt_20 : decode cX2_heardLowAt 20 = .ok (.aload_n 0, 1) := by decide +kernel
theorem dX2_heardLowAt_21 : decode cX2_heardLowAt 21 = .ok (.lload_n 2, 1) := by decide +kernel
theorem dX2_heardLowAt_22 : decode cX2_heardLowAt 22 = .ok (.invokevirtual 56, 3) := by decide +kernel
theorem dX2_heardLowAt_25 : decode cX2_heardLowAt 25 = .ok (.aload_n 0, 1) := by decide +kernel
theorem dX2_heardLowAt_26 : decode cX2_heardLowAt 26 = .ok (.getfield 18, 3) := by decide +kernel
theorem dX2_heardLowAt_29 : decode cX2_heardLowAt 29 = .ok (.invokevirtual 60, 3) := by decide +kernel
theorem dX2_heardLowAt_32 : decode cX2_heardLowAt 32 = .ok (.lreturn, 1) := by decide +kernel
theorem dX2_heardHighAt_0 : decode cX2_heardHighAt 0 = .ok (.aload_n 0, 1) := by decide +kernel
theorem dX2_heardHighAt_1 : decode cX2_heardHighAt 1 = .ok (.iload_n 1, 1) := by decide +kernel
theorem dX2_heardHighAt_2 : decode cX2_heardHighAt 2 = .ok (.invokevirtual 77, 3) := by decide +kernel
theorem dX2_heardHighAt_5 : decode cX2_heardHighAt 5 = .ok (.astore 4, 2) := by decide +kernel
theorem dX2_heardHighAt_7 : decode cX2_heardHighAt 7 = .ok (.aload 4, 2) := by decide +kernel
theorem dX2_heardHighAt_9 : decode cX2_heardHighAt 9 = .ok (.ifnonnull 9, 3) := by decide +kernel
theorem dX2_heardHighAt_12 : decode cX2_heardHighAt 12 = .ok (.ldc2_w 81, 3) := by decide +kernel
theorem dX2_heardHighAt_15 : decode cX2_heardHighAt 15 = .ok (.goto 17, 3) := by decide +kernel
theorem dX2_heardHighAt_18 : decode cX2_heardHighAt 18 = .ok (.aload 4, 2) := by decide +kernel
theorem dX2_heardHighAt_20 : decode cX2_heardHighAt 20 = .ok (.aload_n 0, 1) := by decide +kernel
theorem dX2_heardHighAt_21 : decode cX2_heardHighAt 21 = .ok (.lload_n 2, 1) := by decide +kernel
theorem dX2_heardHighAt_22 : decode cX2_heardHighAt 22 = .ok (.invokevirtual 56, 3) := by decide +kernel
theorem dX2_heardHighAt_25 : decode cX2_heardHighAt 25 = .ok (.aload_n 0, 1) := by decide +kernel
theorem dX2_heardHighAt_26 : decode cX2_heardHighAt 26 = .ok (.getfield 18, 3) := by decide +kernel
theorem dX2_heardHighAt_29 : decode cX2_heardHighAt 29 = .ok (.invokevirtual 64, 3) := by decide +kernel
theorem dX2_heardHighAt_32 : decode cX2_heardHighAt 32 = .ok (.lreturn, 1) := by decide +kernel
theorem dX2_hear_0 : decode cX2_hear 0 = .ok (.iload_n 1, 1) := by decide +kernel
theorem dX2_hear_1 : decode cX2_hear 1 = .ok (.ifCond .lt 12, 3) := by decide +kernel
theorem dX2_hear_4 : decode cX2_hear 4 = .ok (.iload_n 1, 1) := by decide +kernel
theorem dX2_hear_5 : decode cX2_hear 5 = .ok (.aload_n 0, 1) := by decide +kernel
theorem dX2_hear_6 : decode cX2_hear 6 = .ok (.getfield 48, 3) := by decide +kernel
theorem dX2_hear_9 : decode cX2_hear 9 = .ok (.arraylength, 1) := by decide +kernel
theorem dX2_hear_10 : decode cX2_hear 10 = .ok (.if_icmp .lt 4, 3) := by decide +kernel
theorem dX2_hear_13 : decode cX2_hear 13 = .ok (.return_, 1) := by decide +kernel
theorem dX2_hear_14 : decode cX2_hear 14 = .ok (.aload_n 0, 1) := by decide +kernel
theorem dX2_hear_15 : decode cX2_hear 15 = .ok (.getfield 48, 3) := by decide +kernel
theorem dX2_hear_18 : decode cX2_hear 18 = .ok (.iload_n 1, 1) := by decide +kernel
theorem dX2_hear_19 : decode cX2_hear 19 = .ok (.aaload, 1) := by decide +kernel
theorem dX2_hear_20 : decode cX2_hear 20 = .ok (.ifnonnull 16, 3) := by decide +kernel
theorem dX2_hear_23 : decode cX2_hear 23 = .ok (.aload_n 0, 1) := by decide +kernel
theorem dX2_hear_24 : decode cX2_hear 24 = .ok (.getfield 48, 3) := by decide +kernel
theorem dX2_hear_27 : decode cX2_hear 27 = .ok (.iload_n 1, 1) := by decide +kernel
theorem dX2_hear_28 : decode cX2_hear 28 = .ok (.new 34, 3) := by decide +kernel
theorem dX2_hear_31 : decode cX2_hear 31 = .ok (.dup, 1) := by decide +kernel
theorem dX2_hear_32 : decode cX2_hear 32 = .ok (.invokespecial 36, 3) := by decide +kernel
theorem dX2_hear_35 : decode cX2_hear 35 = .ok (.aastore, 1) := by decide +kernel
theorem dX2_hear_36 : decode cX2_hear 36 = .ok (.aload_n 0, 1) := by decide +kernel
theorem dX2_hear_37 : decode cX2_hear 37 = .ok (.getfield 48, 3) := by decide +kernel
theorem dX2_hear_40 : decode cX2_hear 40 = .ok (.iload_n 1, 1) := by decide +kernel
theorem dX2_hear_41 : decode cX2_hear 41 = .ok (.aaload, 1) := by decide +kernel
theorem dX2_hear_42 : decode cX2_hear 42 = .ok (.lload_n 2, 1) := by decide +kernel
theorem dX2_hear_43 : decode cX2_hear 43 = .ok (.lload 4, 2) := by decide +kernel
theorem dX2_hear_45 : decode cX2_hear 45 = .ok (.lload 6, 2) := by decide +kernel
theorem dX2_hear_47 : decode cX2_hear 47 = .ok (.invokevirtual 41, 3) := by decide +kernel
theorem dX2_hear_50 : decode cX2_hear 50 = .ok (.return_, 1) := by decide +kernel
theorem dX2_howManyHeard_0 : decode cX2_howManyHeard 0 = .ok (.iconst 0, 1) := by decide +kernel
theorem dX2_howManyHeard_1 : decode cX2_howManyHeard 1 = .ok (.istore_n 1, 1) := by decide +kernel
theorem dX2_howManyHeard_2 : decode cX2_howManyHeard 2 = .ok (.iconst 0, 1) := by decide +kernel
theorem dX2_howManyHeard_3 : decode cX2_howManyHeard 3 = .ok (.istore_n 2, 1) := by decide +kernel
theorem dX2_howManyHeard_4 : decode cX2_howManyHeard 4 = .ok (.iload_n 2, 1) := by decide +kernel
theorem dX2_howManyHeard_5 : decode cX2_howManyHeard 5 = .ok (.aload_n 0, 1) := by decide +kernel
theorem dX2_howManyHeard_6 : decode cX2_howManyHeard 6 = .ok (.getfield 48, 3) := by decide +kernel
theorem dX2_howManyHeard_9 : decode cX2_howManyHeard 9 = .ok (.arraylength, 1) := by decide +kernel
theorem dX2_howManyHeard_10 : decode cX2_howManyHeard 10 = .ok (.if_icmp .ge 20, 3) := by decide +kernel
theorem dX2_howManyHeard_13 : decode cX2_howManyHeard 13 = .ok (.aload_n 0, 1) := by decide +kernel
theorem dX2_howManyHeard_14 : decode cX2_howManyHeard 14 = .ok (.iload_n 2, 1) := by decide +kernel
theorem dX2_howManyHeard_15 : decode cX2_howManyHeard 15 = .ok (.invokevirtual 83, 3) := by decide +kernel
theorem dX2_howManyHeard_18 : decode cX2_howManyHeard 18 = .ok (.ifCond .eq 6, 3) := by decide +kernel
theorem dX2_howManyHeard_21 : decode cX2_howManyHeard 21 = .ok (.iinc 1 1, 3) := by decide +kernel
theorem dX2_howManyHeard_24 : decode cX2_howManyHeard 24 = .ok (.iinc 2 1, 3) := by decide +kernel
theorem dX2_howManyHeard_27 : decode cX2_howManyHeard 27 = .ok (.goto (-23), 3) := by decide +kernel
theorem dX2_howManyHeard_30 : decode cX2_howManyHeard 30 = .ok (.iload_n 1, 1) := by decide +kernel
theorem dX2_howManyHeard_31 : decode cX2_howManyHeard 31 = .ok (.ireturn, 1) := by decide +kernel
theorem dX2_forgetHeard_0 : decode cX2_forgetHeard 0 = .ok (.iconst 0, 1) := by decide +kernel
theorem dX2_forgetHeard_1 : decode cX2_forgetHeard 1 = .ok (.istore_n 1, 1) := by decide +kernel
theorem dX2_forgetHeard_2 : decode cX2_forgetHeard 2 = .ok (.iload_n 1, 1) := by decide +kernel
theorem dX2_forgetHeard_3 : decode cX2_forgetHeard 3 = .ok (.aload_n 0, 1) := by decide +kernel
theorem dX2_forgetHeard_4 : decode cX2_forgetHeard 4 = .ok (.getfield 48, 3) := by decide +kernel
theorem dX2_forgetHeard_7 : decode cX2_forgetHeard 7 = .ok (.arraylength, 1) := by decide +kernel
theorem dX2_forgetHeard_8 : decode cX2_forgetHeard 8 = .ok (.if_icmp .ge 28, 3) := by decide +kernel
theorem dX2_forgetHeard_11 : decode cX2_forgetHeard 11 = .ok (.aload_n 0, 1) := by decide +kernel
theorem dX2_forgetHeard_12 : decode cX2_forgetHeard 12 = .ok (.getfield 48, 3) := by decide +kernel
theorem dX2_forgetHeard_15 : decode cX2_forgetHeard 15 = .ok (.iload_n 1, 1) := by decide +kernel
theorem dX2_forgetHeard_16 : decode cX2_forgetHeard 16 = .ok (.aaload, 1) := by decide +kernel
theorem dX2_forgetHeard_17 : decode cX2_forgetHeard 17 = .ok (.ifnull 13, 3) := by decide +kernel
theorem dX2_forgetHeard_20 : decode cX2_forgetHeard 20 = .ok (.aload_n 0, 1) := by decide +kernel
theorem dX2_forgetHeard_21 : decode cX2_forgetHeard 21 = .ok (.getfield 48, 3) := by decide +kernel
theorem dX2_forgetHeard_24 : decode cX2_forgetHeard 24 = .ok (.iload_n 1, 1) := by decide +kernel
theorem dX2_forgetHeard_25 : decode cX2_forgetHeard 25 = .ok (.aaload, 1) := by decide +kernel
theorem dX2_forgetHeard_26 : decode cX2_forgetHeard 26 = .ok (.iconst 0, 1) := by decide +kernel
theorem dX2_forgetHeard_27 : decode cX2_forgetHeard 27 = .ok (.putfield 73, 3) := by decide +kernel
theorem dX2_forgetHeard_30 : decode cX2_forgetHeard 30 = .ok (.iinc 1 1, 3) := by decide +kernel
theorem dX2_forgetHeard_33 : decode cX2_forgetHeard 33 = .ok (.goto (-31), 3) := by decide +kernel
theorem dX2_forgetHeard_36 : decode cX2_forgetHeard 36 = .ok (.return_, 1) := by decide +kernel
end
section
theorem dX3_init_0 : decode cX3_init 0 = .ok (.aload_n 0, 1) := by decide +kernel
theorem dX3_init_1 : decode cX3_init 1 = .ok (.invokespecial 3, 3) := by decide +kernel
theorem dX3_init_4 : decode cX3_init 4 = .ok (.aload_n 0, 1) := by decide +kernel
theorem dX3_init_5 : decode cX3_init 5 = .ok (.bipush 30, 2) := by decide +kernel
theorem dX3_init_7 : decode cX3_init 7 = .ok (.newarray .long, 2) := by decide +kernel
theorem dX3_init_9 : decode cX3_init 9 = .ok (.putfield 9, 3) := by decide +kernel
theorem dX3_init_12 : decode cX3_init 12 = .ok (.aload_n 0, 1) := by decide +kernel
theorem dX3_init_13 : decode cX3_init 13 = .ok (.bipush 30, 2) := by decide +kernel
theorem dX3_init_15 : decode cX3_init 15 = .ok (.newarray .long, 2) := by decide +kernel
theorem dX3_init_17 : decode cX3_init 17 = .ok (.putfield 15, 3) := by decide +kernel
theorem dX3_init_20 : decode cX3_init 20 = .ok (.aload_n 0, 1) := by decide +kernel
theorem dX3_init_21 : decode cX3_init 21 = .ok (.bipush 60, 2) := by decide +kernel
theorem dX3_init_23 : decode cX3_init 23 = .ok (.newarray .int, 2) := by decide +kernel
theorem dX3_init_25 : decode cX3_init 25 = .ok (.putfield 18, 3) := by decide +kernel
theorem dX3_init_28 : decode cX3_init 28 = .ok (.aload_n 0, 1) := by decide +kernel
theorem dX3_init_29 : decode cX3_init 29 = .ok (.bipush 60, 2) := by decide +kernel
theorem dX3_init_31 : decode cX3_init 31 = .ok (.newarray .int, 2) := by decide +kernel
theorem dX3_init_33 : decode cX3_init 33 = .ok (.putfield 22, 3) := by decide +kernel
theorem dX3_init_36 : decode cX3_init 36 = .ok (.aload_n 0, 1) := by decide +kernel
theorem dX3_init_37 : decode cX3_init 37 = .ok (.bipush 30, 2) := by decide +kernel
theorem dX3_init_39 : decode cX3_init 39 = .ok (.newarray .int, 2) := by decide +kernel
theorem dX3_init_41 : decode cX3_init 41 = .ok (.putfield 25, 3) := by decide +kernel
theorem dX3_init_44 : decode cX3_init 44 = .ok (.aload_n 0, 1) := by decide +kernel
theorem dX3_init_45 : decode cX3_init 45 = .ok (.bipush 30, 2) := by decide +kernel
theorem dX3_init_47 : decode cX3_init 47 = .ok (.newarray .long, 2) := by decide +kernel
theorem dX3_init_49 : decode cX3_init 49 = .ok (.putfield 28, 3) := by decide +kernel
theorem dX3_init_52 : decode cX3_init 52 = .ok (.aload_n 0, 1) := by decide +kernel
theorem dX3_init_53 : decode cX3_init 53 = .ok (.bipush 30, 2) := by decide +kernel
theorem dX3_init_55 : decode cX3_init 55 = .ok (.newarray .int, 2) := by decide +kernel
theorem dX3_init_57 : decode cX3_init 57 = .ok (.putfield 31, 3) := by decide +kernel
theorem dX3_init_60 : decode cX3_init 60 = .ok (.aload_n 0, 1) := by decide +kernel
theorem dX3_init_61 : decode cX3_init 61 = .ok (.bipush 30, 2) := by decide +kernel
theorem dX3_init_63 : decode cX3_init 63 = .ok (.newarray .int, 2) := by decide +kernel
theorem dX3_init_65 : decode cX3_init 65 = .ok (.putfield 34, 3) := by decide +kernel
theorem dX3_init_68 : decode cX3_init 68 = .ok (.aload_n 0, 1) := by decide +kernel
theorem dX3_init_69 : decode cX3_init 69 = .ok (.bipush 30, 2) := by decide +kernel
theorem dX3_init_71 : decode cX3_init 71 = .ok (.newarray .int, 2) := by decide +kernel
theorem dX3_init_73 : decode cX3_init 73 = .ok (.putfield 37, 3) := by decide +kernel
theorem dX3_init_76 : decode cX3_init 76 = .ok (.return_, 1) := by decide +kernel
theorem dX3_hasEvent_0 : decode cX3_hasEvent 0 = .ok (.iload_n 1, 1) := by decide +kernel
theorem dX3_hasEvent_1 : decode cX3_hasEvent 1 = .ok (.ifCond .lt 15, 3) := by decide +kernel
theorem dX3_hasEvent_4 : decode cX3_hasEvent 4 = .ok (.iload_n 1, 1) := by decide +kernel
theorem dX3_hasEvent_5 : decode cX3_hasEvent 5 = .ok (.aload_n 0, 1) := by decide +kernel
theorem dX3_hasEvent_6 : decode cX3_hasEvent 6 = .ok (.getfield 40, 3) := by decide +kernel
theorem dX3_hasEvent_9 : decode cX3_hasEvent 9 = .ok (.if_icmp .ge 7, 3) := by decide +kernel
theorem dX3_hasEvent_12 : decode cX3_hasEvent 12 = .ok (.iconst 1, 1) := by decide +kernel
theorem dX3_hasEvent_13 : decode cX3_hasEvent 13 = .ok (.goto 4, 3) := by decide +kernel
theorem dX3_hasEvent_16 : decode cX3_hasEvent 16 = .ok (.iconst 0, 1) := by decide +kernel
theorem dX3_hasEvent_17 : decode cX3_hasEvent 17 = .ok (.ireturn, 1) := by decide +kernel
theorem dX3_addEvent_0 : decode cX3_addEvent 0 = .ok (.aload_n 0, 1) := by decide +kernel
theorem dX3_addEvent_1 : decode cX3_addEvent 1 = .ok (.getfield 40, 3) := by decide +kernel
theorem dX3_addEvent_4 : decode cX3_addEvent 4 = .ok (.bipush 30, 2) := by decide +kernel
theorem dX3_addEvent_6 : decode cX3_addEvent 6 = .ok (.if_icmp .lt 7, 3) := by decide +kernel
theorem dX3_addEvent_9 : decode cX3_addEvent 9 = .ok (.ldc2_w 44, 3) := by decide +kernel
theorem dX3_addEvent_12 : decode cX3_addEvent 12 = .ok (.lreturn, 1) := by decide +kernel
theorem dX3_addEvent_13 : decode cX3_addEvent 13 = .ok (.aload_n 0, 1) := by decide +kernel
theorem dX3_addEvent_14 : decode cX3_addEvent 14 = .ok (.getfield 9, 3) := by decide +kernel
theorem dX3_addEvent_17 : decode cX3_addEvent 17 = .ok (.aload_n 0, 1) := by decide +kernel
theorem dX3_addEvent_18 : decode cX3_addEvent 18 = .ok (.getfield 40, 3) := by decide +kernel
theorem dX3_addEvent_21 : decode cX3_addEvent 21 = .ok (.lload_n 1, 1) := by decide +kernel
theorem dX3_addEvent_22 : decode cX3_addEvent 22 = .ok (.lastore, 1) := by decide +kernel
theorem dX3_addEvent_23 : decode cX3_addEvent 23 = .ok (.aload_n 0, 1) := by decide +kernel
theorem dX3_addEvent_24 : decode cX3_addEvent 24 = .ok (.getfield 15, 3) := by decide +kernel
theorem dX3_addEvent_27 : decode cX3_addEvent 27 = .ok (.aload_n 0, 1) := by decide +kernel
theorem dX3_addEvent_28 : decode cX3_addEvent 28 = .ok (.getfield 40, 3) := by decide +kernel
theorem dX3_addEvent_31 : decode cX3_addEvent 31 = .ok (.lload_n 3, 1) := by decide +kernel
theorem dX3_addEvent_32 : decode cX3_addEvent 32 = .ok (.lastore, 1) := by decide +kernel
theorem dX3_addEvent_33 : decode cX3_addEvent 33 = .ok (.aload_n 0, 1) := by decide +kernel
theorem dX3_addEvent_34 : decode cX3_addEvent 34 = .ok (.dup, 1) := by decide +kernel
theorem dX3_addEvent_35 : decode cX3_addEvent 35 = .ok (.getfield 40, 3) := by decide +kernel
theorem dX3_addEvent_38 : decode cX3_addEvent 38 = .ok (.iconst 1, 1) := by decide +kernel
theorem dX3_addEvent_39 : decode cX3_addEvent 39 = .ok (.iadd, 1) := by decide +kernel
theorem dX3_addEvent_40 : decode cX3_addEvent 40 = .ok (.putfield 40, 3) := by decide +kernel
theorem dX3_addEvent_43 : decode cX3_addEvent 43 = .ok (.aload_n 0, 1) := by decide +kernel
theorem dX3_addEvent_44 : decode cX3_addEvent 44 = .ok (.iconst 0, 1) := by decide +kernel
theorem dX3_addEvent_45 : decode cX3_addEvent 45 = .ok (.putfield 46, 3) := by decide +kernel
theorem dX3_addEvent_48 : decode cX3_addEvent 48 = .ok (.aload_n 0, 1) := by decide +kernel
theorem dX3_addEvent_49 : decode cX3_addEvent 49 = .ok (.getfield 40, 3) := by decide +kernel
theorem dX3_addEvent_52 : decode cX3_addEvent 52 = .ok (.iconst 1, 1) := by decide +kernel
theorem dX3_addEvent_53 : decode cX3_addEvent 53 = .ok (.isub, 1) := by decide +kernel
theorem dX3_addEvent_54 : decode cX3_addEvent 54 = .ok (.i2l, 1) := by decide +kernel
theorem dX3_addEvent_55 : decode cX3_addEvent 55 = .ok (.lreturn, 1) := by decide +kernel
theorem dX3_addLink_0 : decode cX3_addLink 0 = .ok (.aload_n 0, 1) := by decide +kernel
theorem dX3_addLink_1 : decode cX3_addLink 1 = .ok (.getfield 50, 3) := by decide +kernel
theorem dX3_addLink_4 : decode cX3_addLink 4 = .ok (.bipush 60, 2) := by decide +kernel
theorem dX3_addLink_6 : decode cX3_addLink 6 = .ok (.if_icmp .ge 19, 3) := by decide +kernel
theorem dX3_addLink_9 : decode cX3_addLink 9 = .ok (.aload_n 0, 1) := by decide +kernel
theorem dX3_addLink_10 : decode cX3_addLink 10 = .ok (.iload_n 1, 1) := by decide +kernel
theorem dX3_addLink_11 : decode cX3_addLink 11 = .ok (.invokevirtual 53, 3) := by decide +kernel
theorem dX3_addLink_14 : decode cX3_addLink 14 = .ok (.ifCond .eq 11, 3) := by decide +kernel
theorem dX3_addLink_17 : decode cX3_addLink 17 = .ok (.aload_n 0, 1) := by decide +kernel
theorem dX3_addLink_18 : decode cX3_addLink 18 = .ok (.iload_n 2, 1) := by decide +kernel
theorem dX3_addLink_19 : decode cX3_addLink 19 = .ok (.invokevirtual 53, 3) := by decide +kernel
theorem dX3_addLink_22 : decode cX3_addLink 22 = .ok (.ifCond .ne 7, 3) := by decide +kernel
theorem dX3_addLink_25 : decode cX3_addLink 25 = .ok (.ldc2_w 44, 3) := by decide +kernel
theorem dX3_addLink_28 : decode cX3_addLink 28 = .ok (.lreturn, 1) := by decide +kernel
theorem dX3_addLink_29 : decode cX3_addLink 29 = .ok (.aload_n 0, 1) := by decide +kernel
theorem dX3_addLink_30 : decode cX3_addLink 30 = .ok (.getfield 18, 3) := by decide +kernel
theorem dX3_addLink_33 : decode cX3_addLink 33 = .ok (.aload_n 0, 1) := by decide +kernel
theorem dX3_addLink_34 : decode cX3_addLink 34 = .ok (.getfield 50, 3) := by decide +kernel
theorem dX3_addLink_37 : decode cX3_addLink 37 = .ok (.iload_n 1, 1) := by decide +kernel
theorem dX3_addLink_38 : decode cX3_addLink 38 = .ok (.iastore, 1) := by decide +kernel
theorem dX3_addLink_39 : decode cX3_addLink 39 = .ok (.aload_n 0, 1) := by decide +kernel
theorem dX3_addLink_40 : decode cX3_addLink 40 = .ok (.getfield 22, 3) := by decide +kernel
theorem dX3_addLink_43 : decode cX3_addLink 43 = .ok (.aload_n 0, 1) := by decide +kernel
theorem dX3_addLink_44 : decode cX3_addLink 44 = .ok (.getfield 50, 3) := by decide +kernel
theorem dX3_addLink_47 : decode cX3_addLink 47 = .ok (.iload_n 2, 1) := by decide +kernel
theorem dX3_addLink_48 : decode cX3_addLink 48 = .ok (.iastore, 1) := by decide +kernel
theorem dX3_addLink_49 : decode cX3_addLink 49 = .ok (.aload_n 0, 1) := by decide +kernel
theorem dX3_addLink_50 : decode cX3_addLink 50 = .ok (.getfield 25, 3) := by decide +kernel
theorem dX3_addLink_53 : decode cX3_addLink 53 = .ok (.iload_n 1, 1) := by decide +kernel
theorem dX3_addLink_54 : decode cX3_addLink 54 = .ok (.dup2, 1) := by decide +kernel
theorem dX3_addLink_55 : decode cX3_addLink 55 = .ok (.iaload, 1) := by decide +kernel
theorem dX3_addLink_56 : decode cX3_addLink 56 = .ok (.iconst 1, 1) := by decide +kernel
theorem dX3_addLink_57 : decode cX3_addLink 57 = .ok (.iload_n 2, 1) := by decide +kernel
theorem dX3_addLink_58 : decode cX3_addLink 58 = .ok (.ishl, 1) := by decide +kernel
theorem dX3_addLink_59 : decode cX3_addLink 59 = .ok (.ior, 1) := by decide +kernel
theorem dX3_addLink_60 : decode cX3_addLink 60 = .ok (.iastore, 1) := by decide +kernel
theorem dX3_addLink_61 : decode cX3_addLink 61 = .ok (.aload_n 0, 1) := by decide +kernel
theorem dX3_addLink_62 : decode cX3_addLink 62 = .ok (.dup, 1) := by decide +kernel
theorem dX3_addLink_63 : decode cX3_addLink 63 = .ok (.getfield 50, 3) := by decide +kernel
theorem dX3_addLink_66 : decode cX3_addLink 66 = .ok (.iconst 1, 1) := by decide +kernel
theorem dX3_addLink_67 : decode cX3_addLink 67 = .ok (.iadd, 1) := by decide +kernel
theorem dX3_addLink_68 : decode cX3_addLink 68 = .ok (.putfield 50, 3) := by decide +kernel
theorem dX3_addLink_71 : decode cX3_addLink 71 = .ok (.aload_n 0, 1) := by decide +kernel
theorem dX3_addLink_72 : decode cX3_addLink 72 = .ok (.iconst 0, 1) := by decide +kernel
theorem dX3_addLink_73 : decode cX3_addLink 73 = .ok (.putfield 46, 3) := by decide +kernel
theorem dX3_addLink_76 : decode cX3_addLink 76 = .ok (.aload_n 0, 1) := by decide +kernel
theorem dX3_addLink_77 : decode cX3_addLink 77 = .ok (.getfield 50, 3) := by decide +kernel
theorem dX3_addLink_80 : decode cX3_addLink 80 = .ok (.i2l, 1) := by decide +kernel
theorem dX3_addLink_81 : decode cX3_addLink 81 = .ok (.lreturn, 1) := by decide +kernel
theorem dX3_settle_0 : decode cX3_settle 0 = .ok (.aload_n 0, 1) := by decide +kernel
theorem dX3_settle_1 : decode cX3_settle 1 = .ok (.getfield 46, 3) := by decide +kernel
theorem dX3_settle_4 : decode cX3_settle 4 = .ok (.ifCond .eq 4, 3) := by decide +kernel
theorem dX3_settle_7 : decode cX3_settle 7 = .ok (.return_, 1) := by decide +kernel
theorem dX3_settle_8 : decode cX3_settle 8 = .ok (.aload_n 0, 1) := by decide +kernel
theorem dX3_settle_9 : decode cX3_settle 9 = .ok (.iconst 1, 1) := by decide +kernel
theorem dX3_settle_10 : decode cX3_settle 10 = .ok (.putfield 46, 3) := by decide +kernel
theorem dX3_settle_13 : decode cX3_settle 13 = .ok (.aload_n 0, 1) := by decide +kernel
theorem dX3_settle_14 : decode cX3_settle 14 = .ok (.iconst 0, 1) := by decide +kernel
theorem dX3_settle_15 : decode cX3_settle 15 = .ok (.putfield 57, 3) := by decide +kernel
theorem dX3_settle_18 : decode cX3_settle 18 = .ok (.aload_n 0, 1) := by decide +kernel
theorem dX3_settle_19 : decode cX3_settle 19 = .ok (.invokevirtual 60, 3) := by decide +kernel
theorem dX3_settle_22 : decode cX3_settle 22 = .ok (.ifCond .ne 15, 3) := by decide +kernel
theorem dX3_settle_25 : decode cX3_settle 25 = .ok (.aload_n 0, 1) := by decide +kernel
theorem dX3_settle_26 : decode cX3_settle 26 = .ok (.ldc2_w 64, 3) := by decide +kernel
theorem dX3_settle_29 : decode cX3_settle 29 = .ok (.putfield 66, 3) := by decide +kernel
theorem dX3_settle_32 : decode cX3_settle 32 = .ok (.aload_n 0, 1) := by decide +kernel
theorem dX3_settle_33 : decode cX3_settle 33 = .ok (.invokevirtual 70, 3) := by decide +kernel
theorem dX3_settle_36 : decode cX3_settle 36 = .ok (.return_, 1) := by decide +kernel
theorem dX3_settle_37 : decode cX3_settle 37 = .ok (.aload_n 0, 1) := by decide +kernel
theorem dX3_settle_38 : decode cX3_settle 38 = .ok (.invokevirtual 73, 3) := by decide +kernel
theorem dX3_settle_41 : decode cX3_settle 41 = .ok (.aload_n 0, 1) := by decide +kernel
theorem dX3_settle_42 : decode cX3_settle 42 = .ok (.invokevirtual 76, 3) := by decide +kernel
theorem dX3_settle_45 : decode cX3_settle 45 = .ok (.return_, 1) := by decide +kernel
theorem dX3_findEarliest_0 : decode cX3_findEarliest 0 = .ok (.iconst 0, 1) := by decide +kernel
theorem dX3_findEarliest_1 : decode cX3_findEarliest 1 = .ok (.istore_n 1, 1) := by decide +kernel
theorem dX3_findEarliest_2 : decode cX3_findEarliest 2 = .ok (.iload_n 1, 1) := by decide +kernel
theorem dX3_findEarliest_3 : decode cX3_findEarliest 3 = .ok (.aload_n 0, 1) := by decide +kernel
theorem dX3_findEarliest_4 : decode cX3_findEarliest 4 = .ok (.getfield 40, 3) := by decide +kernel
theorem dX3_findEarliest_7 : decode cX3_findEarliest 7 = .ok (.if_icmp .ge 21, 3) := by decide +kernel
theorem dX3_findEarliest_10 : decode cX3_findEarliest 10 = .ok (.aload_n 0, 1) := by decide +kernel
theorem dX3_findEarliest_11 : decode cX3_findEarliest 11 = .ok (.getfield 28, 3) := by decide +kernel
theorem dX3_findEarliest_14 : decode cX3_findEarliest 14 = .ok (.iload_n 1, 1) := by decide +kernel
theorem dX3_findEarliest_15 : decode cX3_findEarliest 15 = .ok (.aload_n 0, 1) := by decide +kernel
theorem dX3_findEarliest_16 : decode cX3_findEarliest 16 = .ok (.getfield 9, 3) := by decide +kernel
theorem dX3_findEarliest_19 : decode cX3_findEarliest 19 = .ok (.iload_n 1, 1) := by decide +kernel
theorem dX3_findEarliest_20 : decode cX3_findEarliest 20 = .ok (.laload, 1) := by decide +kernel
theorem dX3_findEarliest_21 : decode cX3_findEarliest 21 = .ok (.lastore, 1) := by decide +kernel
theorem dX3_findEarliest_22 : decode cX3_findEarliest 22 = .ok (.iinc 1 1, 3) := by decide +kernel
theorem dX3_findEarliest_25 : decode cX3_findEarliest 25 = .ok (.goto (-23), 3) := by decide +kernel
theorem dX3_findEarliest_28 : decode cX3_findEarliest 28 = .ok (.iconst 1, 1) := by decide +kernel
theorem dX3_findEarliest_29 : decode cX3_findEarliest 29 = .ok (.istore_n 1, 1) := by decide +kernel
theorem dX3_findEarliest_30 : decode cX3_findEarliest 30 = .ok (.iconst 0, 1) := by decide +kernel
theorem dX3_findEarliest_31 : decode cX3_findEarliest 31 = .ok (.istore_n 2, 1) := by decide +kernel
theorem dX3_findEarliest_32 : decode cX3_findEarliest 32 = .ok (.iload_n 2, 1) := by decide +kernel
theorem dX3_findEarliest_33 : decode cX3_findEarliest 33 = .ok (.aload_n 0, 1) := by decide +kernel
theorem dX3_findEarliest_34 : decode cX3_findEarliest 34 = .ok (.getfield 40, 3) := by decide +kernel
theorem dX3_findEarliest_37 : decode cX3_findEarliest 37 = .ok (.if_icmp .gt 18, 3) := by decide +kernel
theorem dX3_findEarliest_40 : decode cX3_findEarliest 40 = .ok (.iload_n 1, 1) := by decide +kernel
theorem dX3_findEarliest_41 : decode cX3_findEarliest 41 = .ok (.ifCond .eq 14, 3) := by decide +kernel
theorem dX3_findEarliest_44 : decode cX3_findEarliest 44 = .ok (.aload_n 0, 1) := by decide +kernel
theorem dX3_findEarliest_45 : decode cX3_findEarliest 45 = .ok (.invokevirtual 79, 3) := by decide +kernel
theorem dX3_findEarliest_48 : decode cX3_findEarliest 48 = .ok (.istore_n 1, 1) := by decide +kernel
theorem dX3_findEarliest_49 : decode cX3_findEarliest 49 = .ok (.iinc 2 1, 3) := by decide +kernel
theorem dX3_findEarliest_52 : decode cX3_findEarliest 52 = .ok (.goto (-20), 3) := by decide +kernel
theorem dX3_findEarliest_55 : decode cX3_findEarliest 55 = .ok (.iload_n 1, 1) := by decide +kernel
theorem dX3_findEarliest_56 : decode cX3_findEarliest 56 = .ok (.ifCond .ne 7, 3) := by decide +kernel
theorem dX3_findEarliest_59 : decode cX3_findEarliest 59 = .ok (.iconst 1, 1) := by decide +kernel
theorem dX3_findEarliest_60 : decode cX3_findEarliest 60 = .ok (.goto 4, 3) := by decide +kernel
theorem dX3_findEarliest_63 : decode cX3_findEarliest 63 = .ok (.iconst 0, 1) := by decide +kernel
theorem dX3_findEarliest_64 : decode cX3_findEarliest 64 = .ok (.ireturn, 1) := by decide +kernel
theorem dX3_raiseOnce_0 : decode cX3_raiseOnce 0 = .ok (.iconst 0, 1) := by decide +kernel
theorem dX3_raiseOnce_1 : decode cX3_raiseOnce 1 = .ok (.istore_n 1, 1) := by decide +kernel
theorem dX3_raiseOnce_2 : decode cX3_raiseOnce 2 = .ok (.iconst 0, 1) := by decide +kernel
theorem dX3_raiseOnce_3 : decode cX3_raiseOnce 3 = .ok (.istore_n 2, 1) := by decide +kernel
theorem dX3_raiseOnce_4 : decode cX3_raiseOnce 4 = .ok (.iload_n 2, 1) := by decide +kernel
theorem dX3_raiseOnce_5 : decode cX3_raiseOnce 5 = .ok (.aload_n 0, 1) := by decide +kernel
theorem dX3_raiseOnce_6 : decode cX3_raiseOnce 6 = .ok (.getfield 50, 3) := by decide +kernel
theorem dX3_raiseOnce_9 : decode cX3_raiseOnce 9 = .ok (.if_icmp .ge 61, 3) := by decide +kernel
theorem dX3_raiseOnce_12 : decode cX3_raiseOnce 12 = .ok (.aload_n 0, 1) := by decide +kernel
theorem dX3_raiseOnce_13 : decode cX3_raiseOnce 13 = .ok (.getfield 28, 3) := by decide +kernel
theorem dX3_raiseOnce_16 : decode cX3_raiseOnce 16 = .ok (.aload_n 0, 1) := by decide +kernel
theorem dX3_raiseOnce_17 : decode cX3_raiseOnce 17 = .ok (.getfield 22, 3) := by decide +kernel
theorem dX3_raiseOnce_20 : decode cX3_raiseOnce 20 = .ok (.iload_n 2, 1) := by decide +kernel
theorem dX3_raiseOnce_21 : decode cX3_raiseOnce 21 = .ok (.iaload, 1) := by decide +kernel
theorem dX3_raiseOnce_22 : decode cX3_raiseOnce 22 = .ok (.laload, 1) := by decide +kernel
theorem dX3_raiseOnce_23 : decode cX3_raiseOnce 23 = .ok (.aload_n 0, 1) := by decide +kernel
theorem dX3_raiseOnce_24 : decode cX3_raiseOnce 24 = .ok (.getfield 28, 3) := by decide +kernel
theorem dX3_raiseOnce_27 : decode cX3_raiseOnce 27 = .ok (.aload_n 0, 1) := by decide +kernel
theorem dX3_raiseOnce_28 : decode cX3_raiseOnce 28 = .ok (.getfield 18, 3) := by decide +kernel
theorem dX3_raiseOnce_31 : decode cX3_raiseOnce 31 = .ok (.iload_n 2, 1) := by decide +kernel
theorem dX3_raiseOnce_32 : decode cX3_raiseOnce 32 = .ok (.iaload, 1) := by decide +kernel
theorem dX3_raiseOnce_33 : decode cX3_raiseOnce 33 = .ok (.laload, 1) := by decide +kernel
theorem dX3_raiseOnce_34 : decode cX3_raiseOnce 34 = .ok (.lcmp, 1) := by decide +kernel
theorem dX3_raiseOnce_35 : decode cX3_raiseOnce 35 = .ok (.ifCond .gt 29, 3) := by decide +kernel
theorem dX3_raiseOnce_38 : decode cX3_raiseOnce 38 = .ok (.aload_n 0, 1) := by decide +kernel
theorem dX3_raiseOnce_39 : decode cX3_raiseOnce 39 = .ok (.getfield 28, 3) := by decide +kernel
theorem dX3_raiseOnce_42 : decode cX3_raiseOnce 42 = .ok (.aload_n 0, 1) := by decide +kernel
theorem dX3_raiseOnce_43 : decode cX3_raiseOnce 43 = .ok (.getfield 22, 3) := by decide +kernel
theorem dX3_raiseOnce_46 : decode cX3_raiseOnce 46 = .ok (.iload_n 2, 1) := by decide +kernel
theorem dX3_raiseOnce_47 : decode cX3_raiseOnce 47 = .ok (.iaload, 1) := by decide +kernel
theorem dX3_raiseOnce_48 : decode cX3_raiseOnce 48 = .ok (.aload_n 0, 1) := by decide +kernel
theorem dX3_raiseOnce_49 : decode cX3_raiseOnce 49 = .ok (.getfield 28, 3) := by decide +kernel
theorem dX3_raiseOnce_52 : decode cX3_raiseOnce 52 = .ok (.aload_n 0, 1) := by decide +kernel
theorem dX3_raiseOnce_53 : decode cX3_raiseOnce 53 = .ok (.getfield 18, 3) := by decide +kernel
theorem dX3_raiseOnce_56 : decode cX3_raiseOnce 56 = .ok (.iload_n 2, 1) := by decide +kernel
theorem dX3_raiseOnce_57 : decode cX3_raiseOnce 57 = .ok (.iaload, 1) := by decide +kernel
theorem dX3_raiseOnce_58 : decode cX3_raiseOnce 58 = .ok (.laload, 1) := by decide +kernel
theorem dX3_raiseOnce_59 : decode cX3_raiseOnce 59 = .ok (.lconst 1, 1) := by decide +kernel
theorem dX3_raiseOnce_60 : decode cX3_raiseOnce 60 = .ok (.ladd, 1) := by decide +kernel
theorem dX3_raiseOnce_61 : decode cX3_raiseOnce 61 = .ok (.lastore, 1) := by decide +kernel
theorem dX3_raiseOnce_62 : decode cX3_raiseOnce 62 = .ok (.iconst 1, 1) := by decide +kernel
theorem dX3_raiseOnce_63 : decode cX3_raiseOnce 63 = .ok (.istore_n 1, 1) := by decide +kernel
theorem dX3_raiseOnce_64 : decode cX3_raiseOnce 64 = .ok (.iinc 2 1, 3) := by decide +kernel
theorem dX3_raiseOnce_67 : decode cX3_raiseOnce 67 = .ok (.goto (-63), 3) := by decide +kernel
theorem dX3_raiseOnce_70 : decode cX3_raiseOnce 70 = .ok (.iload_n 1, 1) := by decide +kernel
theorem dX3_raiseOnce_71 : decode cX3_raiseOnce 71 = .ok (.ireturn, 1) := by decide +kernel
theorem dX3_findWidening_0 : decode cX3_findWidening 0 = .ok (.aload_n 0, 1) := by decide +kernel
theorem dX3_findWidening_1 : decode cX3_findWidening 1 = .ok (.lconst 0, 1) := by decide +kernel
theorem dX3_findWidening_2 : decode cX3_findWidening 2 = .ok (.putfield 66, 3) := by decide +kernel
theorem dX3_findWidening_5 : decode cX3_findWidening 5 = .ok (.iconst 0, 1) := by decide +kernel
theorem dX3_findWidening_6 : decode cX3_findWidening 6 = .ok (.istore_n 1, 1) := by decide +kernel
theorem dX3_findWidening_7 : decode cX3_findWidening 7 = .ok (.iload_n 1, 1) := by decide +kernel
theorem dX3_findWidening_8 : decode cX3_findWidening 8 = .ok (.aload_n 0, 1) := by decide +kernel
theorem dX3_findWidening_9 : decode cX3_findWidening 9 = .ok (.getfield 40, 3) := by decide +kernel
theorem dX3_findWidening_12 : decode cX3_findWidening 12 = .ok (.if_icmp .ge 39, 3) := by decide +kernel
theorem dX3_findWidening_15 : decode cX3_findWidening 15 = .ok (.aload_n 0, 1) := by decide +kernel
theorem dX3_findWidening_16 : decode cX3_findWidening 16 = .ok (.aload_n 0, 1) := by decide +kernel
theorem dX3_findWidening_17 : decode cX3_findWidening 17 = .ok (.getfield 66, 3) := by decide +kernel
theorem dX3_findWidening_20 : decode cX3_findWidening 20 = .ok (.aload_n 0, 1) := by decide +kernel
theorem dX3_findWidening_21 : decode cX3_findWidening 21 = .ok (.getfield 28, 3) := by decide +kernel
theorem dX3_findWidening_24 : decode cX3_findWidening 24 = .ok (.iload_n 1, 1) := by decide +kernel
theorem dX3_findWidening_25 : decode cX3_findWidening 25 = .ok (.laload, 1) := by decide +kernel
theorem dX3_findWidening_26 : decode cX3_findWidening 26 = .ok (.aload_n 0, 1) := by decide +kernel
theorem dX3_findWidening_27 : decode cX3_findWidening 27 = .ok (.getfield 15, 3) := by decide +kernel
theorem dX3_findWidening_30 : decode cX3_findWidening 30 = .ok (.iload_n 1, 1) := by decide +kernel
theorem dX3_findWidening_31 : decode cX3_findWidening 31 = .ok (.laload, 1) := by decide +kernel
theorem dX3_findWidening_32 : decode cX3_findWidening 32 = .ok (.lsub, 1) := by decide +kernel
theorem dX3_findWidening_33 : decode cX3_findWidening 33 = .ok (.ldc2_w 82, 3) := by decide +kernel
theorem dX3_findWidening_36 : decode cX3_findWidening 36 = .ok (.invokestatic 84, 3) := by decide +kernel
theorem dX3_findWidening_39 : decode cX3_findWidening 39 = .ok (.invokestatic 88, 3) := by decide +kernel
theorem dX3_findWidening_42 : decode cX3_findWidening 42 = .ok (.putfield 66, 3) := by decide +kernel
theorem dX3_findWidening_45 : decode cX3_findWidening 45 = .ok (.iinc 1 1, 3) := by decide +kernel
theorem dX3_findWidening_48 : decode cX3_findWidening 48 = .ok (.goto (-41), 3) := by decide +kernel
theorem dX3_findWidening_51 : decode cX3_findWidening 51 = .ok (.return_, 1) := by decide +kernel
theorem dX3_rank_0 : decode cX3_rank 0 = .ok (.iconst 0, 1) := by decide +kernel
theorem dX3_rank_1 : decode cX3_rank 1 = .ok (.istore_n 1, 1) := by decide +kernel
theorem dX3_rank_2 : decode cX3_rank 2 = .ok (.iload_n 1, 1) := by decide +kernel
theorem dX3_rank_3 : decode cX3_rank 3 = .ok (.aload_n 0, 1) := by decide +kernel
theorem dX3_rank_4 : decode cX3_rank 4 = .ok (.getfield 40, 3) := by decide +kernel
theorem dX3_rank_7 : decode cX3_rank 7 = .ok (.if_icmp .ge 65, 3) := by decide +kernel
theorem dX3_rank_10 : decode cX3_rank 10 = .ok (.iload_n 1, 1) := by decide +kernel
theorem dX3_rank_11 : decode cX3_rank 11 = .ok (.istore_n 2, 1) := by decide +kernel
theorem dX3_rank_12 : decode cX3_rank 12 = .ok (.iload_n 2, 1) := by decide +kernel
theorem dX3_rank_13 : decode cX3_rank 13 = .ok (.ifCond .le 46, 3) := by decide +kernel
theorem dX3_rank_16 : decode cX3_rank 16 = .ok (.aload_n 0, 1) := by decide +kernel
theorem dX3_rank_17 : decode cX3_rank 17 = .ok (.getfield 28, 3) := by decide +kernel
theorem dX3_rank_20 : decode cX3_rank 20 = .ok (.aload_n 0, 1) := by decide +kernel
theorem dX3_rank_21 : decode cX3_rank 21 = .ok (.getfield 31, 3) := by decide +kernel
theorem dX3_rank_24 : decode cX3_rank 24 = .ok (.iload_n 2, 1) := by decide +kernel
theorem dX3_rank_25 : decode cX3_rank 25 = .ok (.iconst 1, 1) := by decide +kernel
theorem dX3_rank_26 : decode cX3_rank 26 = .ok (.isub, 1) := by decide +kernel
theorem dX3_rank_27 : decode cX3_rank 27 = .ok (.iaload, 1) := by decide +kernel
theorem dX3_rank_28 : decode cX3_rank 28 = .ok (.laload, 1) := by decide +kernel
theorem dX3_rank_29 : decode cX3_rank 29 = .ok (.aload_n 0, 1) := by decide +kernel
theorem dX3_rank_30 : decode cX3_rank 30 = .ok (.getfield 28, 3) := by decide +kernel
theorem dX3_rank_33 : decode cX3_rank 33 = .ok (.iload_n 1, 1) := by decide +kernel
theorem dX3_rank_34 : decode cX3_rank 34 = .ok (.laload, 1) := by decide +kernel
theorem dX3_rank_35 : decode cX3_rank 35 = .ok (.lcmp, 1) := by decide +kernel
theorem dX3_rank_36 : decode cX3_rank 36 = .ok (.ifCond .le 23, 3) := by decide +kernel
theorem dX3_rank_39 : decode cX3_rank 39 = .ok (.aload_n 0, 1) := by decide +kernel
theorem dX3_rank_40 : decode cX3_rank 40 = .ok (.getfield 31, 3) := by decide +kernel
theorem dX3_rank_43 : decode cX3_rank 43 = .ok (.iload_n 2, 1) := by decide +kernel
theorem dX3_rank_44 : decode cX3_rank 44 = .ok (.aload_n 0, 1) := by decide +kernel
theorem dX3_rank_45 : decode cX3_rank 45 = .ok (.getfield 31, 3) := by decide +kernel
theorem dX3_rank_48 : decode cX3_rank 48 = .ok (.iload_n 2, 1) := by decide +kernel
theorem dX3_rank_49 : decode cX3_rank 49 = .ok (.iconst 1, 1) := by decide +kernel
theorem dX3_rank_50 : decode cX3_rank 50 = .ok (.isub, 1) := by decide +kernel
theorem dX3_rank_51 : decode cX3_rank 51 = .ok (.iaload, 1) := by decide +kernel
theorem dX3_rank_52 : decode cX3_rank 52 = .ok (.iastore, 1) := by decide +kernel
theorem dX3_rank_53 : decode cX3_rank 53 = .ok (.iinc 2 (-1), 3) := by decide +kernel
theorem dX3_rank_56 : decode cX3_rank 56 = .ok (.goto (-44), 3) := by decide +kernel
theorem dX3_rank_59 : decode cX3_rank 59 = .ok (.aload_n 0, 1) := by decide +kernel
theorem dX3_rank_60 : decode cX3_rank 60 = .ok (.getfield 31, 3) := by decide +kernel
theorem dX3_rank_63 : decode cX3_rank 63 = .ok (.iload_n 2, 1) := by decide +kernel
theorem dX3_rank_64 : decode cX3_rank 64 = .ok (.iload_n 1, 1) := by decide +kernel
theorem dX3_rank_65 : decode cX3_rank 65 = .ok (.iastore, 1) := by decide +kernel
theorem dX3_rank_66 : decode cX3_rank 66 = .ok (.iinc 1 1, 3) := by decide +kernel
theorem dX3_rank_69 : decode cX3_rank 69 = .ok (.goto (-67), 3) := by decide +kernel
theorem dX3_rank_72 : decode cX3_rank 72 = .ok (.return_, 1) := by decide +kernel
theorem dX3_findRing_0 : decode cX3_findRing 0 = .ok (.iconst (-1), 1) := by decide +kernel
theorem dX3_findRing_1 : decode cX3_findRing 1 = .ok (.istore_n 1, 1) := by decide +kernel
theorem dX3_findRing_2 : decode cX3_findRing 2 = .ok (.iconst 0, 1) := by decide +kernel
theorem dX3_findRing_3 : decode cX3_findRing 3 = .ok (.istore_n 2, 1) := by decide +kernel
theorem dX3_findRing_4 : decode cX3_findRing 4 = .ok (.iload_n 2, 1) := by decide +kernel
theorem dX3_findRing_5 : decode cX3_findRing 5 = .ok (.aload_n 0, 1) := by decide +kernel
theorem dX3_findRing_6 : decode cX3_findRing 6 = .ok (.getfield 40, 3) := by decide +kernel
theorem dX3_findRing_9 : decode cX3_findRing 9 = .ok (.if_icmp .ge 57, 3) := by decide +kernel
theorem dX3_findRing_12 : decode cX3_findRing 12 = .ok (.aload_n 0, 1) := by decide +kernel
theorem dX3_findRing_13 : decode cX3_findRing 13 = .ok (.iload_n 2, 1) := by decide +kernel
theorem dX3_findRing_14 : decode cX3_findRing 14 = .ok (.invokevirtual 93, 3) := by decide +kernel
theorem dX3_findRing_17 : decode cX3_findRing 17 = .ok (.aload_n 0, 1) := by decide +kernel
theorem dX3_findRing_18 : decode cX3_findRing 18 = .ok (.iload_n 2, 1) := by decide +kernel
theorem dX3_findRing_19 : decode cX3_findRing 19 = .ok (.invokevirtual 97, 3) := by decide +kernel
theorem dX3_findRing_22 : decode cX3_findRing 22 = .ok (.istore_n 3, 1) := by decide +kernel
theorem dX3_findRing_23 : decode cX3_findRing 23 = .ok (.iload_n 3, 1) := by decide +kernel
theorem dX3_findRing_24 : decode cX3_findRing 24 = .ok (.ifCond .lt 36, 3) := by decide +kernel
theorem dX3_findRing_27 : decode cX3_findRing 27 = .ok (.iload_n 1, 1) := by decide +kernel
theorem dX3_findRing_28 : decode cX3_findRing 28 = .ok (.ifCond .lt 18, 3) := by decide +kernel
theorem dX3_findRing_31 : decode cX3_findRing 31 = .ok (.aload_n 0, 1) := by decide +kernel
theorem dX3_findRing_32 : decode cX3_findRing 32 = .ok (.getfield 37, 3) := by decide +kernel
theorem dX3_findRing_35 : decode cX3_findRing 35 = .ok (.iload_n 3, 1) := by decide +kernel
theorem dX3_findRing_36 : decode cX3_findRing 36 = .ok (.iaload, 1) := by decide +kernel
theorem dX3_findRing_37 : decode cX3_findRing 37 = .ok (.iconst 1, 1) := by decide +kernel
theorem dX3_findRing_38 : decode cX3_findRing 38 = .ok (.iadd, 1) := by decide +kernel
theorem dX3_findRing_39 : decode cX3_findRing 39 = .ok (.aload_n 0, 1) := by decide +kernel
theorem dX3_findRing_40 : decode cX3_findRing 40 = .ok (.getfield 57, 3) := by decide +kernel
theorem dX3_findRing_43 : decode cX3_findRing 43 = .ok (.if_icmp .ge 17, 3) := by decide +kernel
theorem dX3_findRing_46 : decode cX3_findRing 46 = .ok (.iload_n 2, 1) := by decide +kernel
theorem dX3_findRing_47 : decode cX3_findRing 47 = .ok (.istore_n 1, 1) := by decide +kernel
theorem dX3_findRing_48 : decode cX3_findRing 48 = .ok (.aload_n 0, 1) := by decide +kernel
theorem dX3_findRing_49 : decode cX3_findRing 49 = .ok (.aload_n 0, 1) := by decide +kernel
theorem dX3_findRing_50 : decode cX3_findRing 50 = .ok (.getfield 37, 3) := by decide +kernel
theorem dX3_findRing_53 : decode cX3_findRing 53 = .ok (.iload_n 3, 1) := by decide +kernel
theorem dX3_findRing_54 : decode cX3_findRing 54 = .ok (.iaload, 1) := by decide +kernel
theorem dX3_findRing_55 : decode cX3_findRing 55 = .ok (.iconst 1, 1) := by decide +kernel
theorem dX3_findRing_56 : decode cX3_findRing 56 = .ok (.iadd, 1) := by decide +kernel
theorem dX3_findRing_57 : decode cX3_findRing 57 = .ok (.putfield 57, 3) := by decide +kernel
theorem dX3_findRing_60 : decode cX3_findRing 60 = .ok (.iinc 2 1, 3) := by decide +kernel
theorem dX3_findRing_63 : decode cX3_findRing 63 = .ok (.goto (-59), 3) := by decide +kernel
theorem dX3_findRing_66 : decode cX3_findRing 66 = .ok (.iload_n 1, 1) := by decide +kernel
theorem dX3_findRing_67 : decode cX3_findRing 67 = .ok (.ifCond .ge 4, 3) := by decide +kernel
theorem dX3_findRing_70 : decode cX3_findRing 70 = .ok (.return_, 1) := by decide +kernel
theorem dX3_findRing_71 : decode cX3_findRing 71 = .ok (.aload_n 0, 1) := by decide +kernel
theorem dX3_findRing_72 : decode cX3_findRing 72 = .ok (.iload_n 1, 1) := by decide +kernel
theorem dX3_findRing_73 : decode cX3_findRing 73 = .ok (.invokevirtual 93, 3) := by decide +kernel
theorem dX3_findRing_76 : decode cX3_findRing 76 = .ok (.iload_n 1, 1) := by decide +kernel
theorem dX3_findRing_77 : decode cX3_findRing 77 = .ok (.istore_n 2, 1) := by decide +kernel
theorem dX3_findRing_78 : decode cX3_findRing 78 = .ok (.iconst 0, 1) := by decide +kernel
theorem dX3_findRing_79 : decode cX3_findRing 79 = .ok (.istore_n 3, 1) := by decide +kernel
theorem dX3_findRing_80 : decode cX3_findRing 80 = .ok (.iload_n 3, 1) := by decide +kernel
theorem dX3_findRing_81 : decode cX3_findRing 81 = .ok (.aload_n 0, 1) := by decide +kernel
theorem dX3_findRing_82 : decode cX3_findRing 82 = .ok (.getfield 57, 3) := by decide +kernel
theorem dX3_findRing_85 : decode cX3_findRing 85 = .ok (.if_icmp .ge 26, 3) := by decide +kernel
theorem dX3_findRing_88 : decode cX3_findRing 88 = .ok (.iload_n 2, 1) := by decide +kernel
theorem dX3_findRing_89 : decode cX3_findRing 89 = .ok (.ifCond .lt 22, 3) := by decide +kernel
theorem dX3_findRing_92 : decode cX3_findRing 92 = .ok (.aload_n 0, 1) := by decide +kernel
theorem dX3_findRing_93 : decode cX3_findRing 93 = .ok (.getfield 34, 3) := by decide +kernel
theorem dX3_findRing_96 : decode cX3_findRing 96 = .ok (.iload_n 3, 1) := by decide +kernel
theorem dX3_findRing_97 : decode cX3_findRing 97 = .ok (.iload_n 2, 1) := by decide +kernel
theorem dX3_findRing_98 : decode cX3_findRing 98 = .ok (.iastore, 1) := by decide +kernel
theorem dX3_findRing_99 : decode cX3_findRing 99 = .ok (.aload_n 0, 1) := by decide +kernel
theorem dX3_findRing_100 : decode cX3_findRing 100 = .ok (.iload_n 2, 1) := by decide +kernel
theorem dX3_findRing_101 : decode cX3_findRing 101 = .ok (.invokevirtual 97, 3) := by decide +kernel
theorem dX3_findRing_104 : decode cX3_findRing 104 = .ok (.istore_n 2, 1) := by decide +kernel
theorem dX3_findRing_105 : decode cX3_findRing 105 = .ok (.iinc 3 1, 3) := by decide +kernel
theorem dX3_findRing_108 : decode cX3_findRing 108 = .ok (.goto (-28), 3) := by decide +kernel
theorem dX3_findRing_111 : decode cX3_findRing 111 = .ok (.return_, 1) := by decide +kernel
theorem dX3_measureTo_0 : decode cX3_measureTo 0 = .ok (.iconst 0, 1) := by decide +kernel
theorem dX3_measureTo_1 : decode cX3_measureTo 1 = .ok (.istore_n 2, 1) := by decide +kernel
theorem dX3_measureTo_2 : decode cX3_measureTo 2 = .ok (.iload_n 2, 1) := by decide +kernel
theorem dX3_measureTo_3 : decode cX3_measureTo 3 = .ok (.aload_n 0, 1) := by decide +kernel
theorem dX3_measureTo_4 : decode cX3_measureTo 4 = .ok (.getfield 40, 3) := by decide +kernel
theorem dX3_measureTo_7 : decode cX3_measureTo 7 = .ok (.if_icmp .ge 25, 3) := by decide +kernel
theorem dX3_measureTo_10 : decode cX3_measureTo 10 = .ok (.aload_n 0, 1) := by decide +kernel
theorem dX3_measureTo_11 : decode cX3_measureTo 11 = .ok (.getfield 37, 3) := by decide +kernel
theorem dX3_measureTo_14 : decode cX3_measureTo 14 = .ok (.iload_n 2, 1) := by decide +kernel
theorem dX3_measureTo_15 : decode cX3_measureTo 15 = .ok (.iload_n 2, 1) := by decide +kernel
theorem dX3_measureTo_16 : decode cX3_measureTo 16 = .ok (.iload_n 1, 1) := by decide +kernel
theorem dX3_measureTo_17 : decode cX3_measureTo 17 = .ok (.if_icmp .ne 7, 3) := by decide +kernel
theorem dX3_measureTo_20 : decode cX3_measureTo 20 = .ok (.iconst 0, 1) := by decide +kernel
theorem dX3_measureTo_21 : decode cX3_measureTo 21 = .ok (.goto 4, 3) := by decide +kernel
theorem dX3_measureTo_24 : decode cX3_measureTo 24 = .ok (.iconst (-1), 1) := by decide +kernel
theorem dX3_measureTo_25 : decode cX3_measureTo 25 = .ok (.iastore, 1) := by decide +kernel
theorem dX3_measureTo_26 : decode cX3_measureTo 26 = .ok (.iinc 2 1, 3) := by decide +kernel
theorem dX3_measureTo_29 : decode cX3_measureTo 29 = .ok (.goto (-27), 3) := by decide +kernel
theorem dX3_measureTo_32 : decode cX3_measureTo 32 = .ok (.iconst 1, 1) := by decide +kernel
theorem dX3_measureTo_33 : decode cX3_measureTo 33 = .ok (.iload_n 1, 1) := by decide +kernel
theorem dX3_measureTo_34 : decode cX3_measureTo 34 = .ok (.ishl, 1) := by decide +kernel
theorem dX3_measureTo_35 : decode cX3_measureTo 35 = .ok (.istore_n 2, 1) := by decide +kernel
theorem dX3_measureTo_36 : decode cX3_measureTo 36 = .ok (.iconst 1, 1) := by decide +kernel
theorem dX3_measureTo_37 : decode cX3_measureTo 37 = .ok (.istore_n 3, 1) := by decide +kernel
theorem dX3_measureTo_38 : decode cX3_measureTo 38 = .ok (.iload_n 3, 1) := by decide +kernel
theorem dX3_measureTo_39 : decode cX3_measureTo 39 = .ok (.aload_n 0, 1) := by decide +kernel
theorem dX3_measureTo_40 : decode cX3_measureTo 40 = .ok (.getfield 40, 3) := by decide +kernel
theorem dX3_measureTo_43 : decode cX3_measureTo 43 = .ok (.if_icmp .gt 76, 3) := by decide +kernel
theorem dX3_measureTo_46 : decode cX3_measureTo 46 = .ok (.iload_n 2, 1) := by decide +kernel
theorem dX3_measureTo_47 : decode cX3_measureTo 47 = .ok (.ifCond .eq 72, 3) := by decide +kernel
theorem dX3_measureTo_50 : decode cX3_measureTo 50 = .ok (.iconst 0, 1) := by decide +kernel
theorem dX3_measureTo_51 : decode cX3_measureTo 51 = .ok (.istore 4, 2) := by decide +kernel
theorem dX3_measureTo_53 : decode cX3_measureTo 53 = .ok (.iconst 0, 1) := by decide +kernel
theorem dX3_measureTo_54 : decode cX3_measureTo 54 = .ok (.istore 5, 2) := by decide +kernel
theorem dX3_measureTo_56 : decode cX3_measureTo 56 = .ok (.iload 5, 2) := by decide +kernel
theorem dX3_measureTo_58 : decode cX3_measureTo 58 = .ok (.aload_n 0, 1) := by decide +kernel
theorem dX3_measureTo_59 : decode cX3_measureTo 59 = .ok (.getfield 40, 3) := by decide +kernel
theorem dX3_measureTo_62 : decode cX3_measureTo 62 = .ok (.if_icmp .ge 48, 3) := by decide +kernel
theorem dX3_measureTo_65 : decode cX3_measureTo 65 = .ok (.aload_n 0, 1) := by decide +kernel
theorem dX3_measureTo_66 : decode cX3_measureTo 66 = .ok (.getfield 37, 3) := by decide +kernel
theorem dX3_measureTo_69 : decode cX3_measureTo 69 = .ok (.iload 5, 2) := by decide +kernel
theorem dX3_measureTo_71 : decode cX3_measureTo 71 = .ok (.iaload, 1) := by decide +kernel
theorem dX3_measureTo_72 : decode cX3_measureTo 72 = .ok (.ifCond .ge 32, 3) := by decide +kernel
theorem dX3_measureTo_75 : decode cX3_measureTo 75 = .ok (.aload_n 0, 1) := by decide +kernel
theorem dX3_measureTo_76 : decode cX3_measureTo 76 = .ok (.getfield 25, 3) := by decide +kernel
theorem dX3_measureTo_79 : decode cX3_measureTo 79 = .ok (.iload 5, 2) := by decide +kernel
theorem dX3_measureTo_81 : decode cX3_measureTo 81 = .ok (.iaload, 1) := by decide +kernel
theorem dX3_measureTo_82 : decode cX3_measureTo 82 = .ok (.iload_n 2, 1) := by decide +kernel
theorem dX3_measureTo_83 : decode cX3_measureTo 83 = .ok (.iand, 1) := by decide +kernel
theorem dX3_measureTo_84 : decode cX3_measureTo 84 = .ok (.ifCond .eq 20, 3) := by decide +kernel
theorem dX3_measureTo_87 : decode cX3_measureTo 87 = .ok (.aload_n 0, 1) := by decide +kernel
theorem dX3_measureTo_88 : decode cX3_measureTo 88 = .ok (.getfield 37, 3) := by decide +kernel
theorem dX3_measureTo_91 : decode cX3_measureTo 91 = .ok (.iload 5, 2) := by decide +kernel
theorem dX3_measureTo_93 : decode cX3_measureTo 93 = .ok (.iload_n 3, 1) := by decide +kernel
theorem dX3_measureTo_94 : decode cX3_measureTo 94 = .ok (.iastore, 1) := by decide +kernel
theorem dX3_measureTo_95 : decode cX3_measureTo 95 = .ok (.iload 4, 2) := by decide +kernel
theorem dX3_measureTo_97 : decode cX3_measureTo 97 = .ok (.iconst 1, 1) := by decide +kernel
theorem dX3_measureTo_98 : decode cX3_measureTo 98 = .ok (.iload 5, 2) := by decide +kernel
theorem dX3_measureTo_100 : decode cX3_measureTo 100 = .ok (.ishl, 1) := by decide +kernel
theorem dX3_measureTo_101 : decode cX3_measureTo 101 = .ok (.ior, 1) := by decide +kernel
theorem dX3_measureTo_102 : decode cX3_measureTo 102 = .ok (.istore 4, 2) := by decide +kernel
theorem dX3_measureTo_104 : decode cX3_measureTo 104 = .ok (.iinc 5 1, 3) := by decide +kernel
theorem dX3_measureTo_107 : decode cX3_measureTo 107 = .ok (.goto (-51), 3) := by decide +kernel
theorem dX3_measureTo_110 : decode cX3_measureTo 110 = .ok (.iload 4, 2) := by decide +kernel
theorem dX3_measureTo_112 : decode cX3_measureTo 112 = .ok (.istore_n 2, 1) := by decide +kernel
theorem dX3_measureTo_113 : decode cX3_measureTo 113 = .ok (.iinc 3 1, 3) := by decide +kernel
theorem dX3_measureTo_116 : decode cX3_measureTo 116 = .ok (.goto (-78), 3) := by decide +kernel
theorem dX3_measureTo_119 : decode cX3_measureTo 119 = .ok (.return_, 1) := by decide +kernel
theorem dX3_nearestAfter_0 : decode cX3_nearestAfter 0 = .ok (.iconst (-1), 1) := by decide +kernel
theorem dX3_nearestAfter_1 : decode cX3_nearestAfter 1 = .ok (.istore_n 2, 1) := by decide +kernel
theorem dX3_nearestAfter_2 : decode cX3_nearestAfter 2 = .ok (.iconst 0, 1) := by decide +kernel
theorem dX3_nearestAfter_3 : decode cX3_nearestAfter 3 = .ok (.istore_n 3, 1) := by decide +kernel
theorem dX3_nearestAfter_4 : decode cX3_nearestAfter 4 = .ok (.iload_n 3, 1) := by decide +kernel
theorem dX3_nearestAfter_5 : decode cX3_nearestAfter 5 = .ok (.aload_n 0, 1) := by decide +kernel
theorem dX3_nearestAfter_6 : decode cX3_nearestAfter 6 = .ok (.getfield 40, 3) := by decide +kernel
theorem dX3_nearestAfter_9 : decode cX3_nearestAfter 9 = .ok (.if_icmp .ge 64, 3) := by decide +kernel
theorem dX3_nearestAfter_12 : decode cX3_nearestAfter 12 = .ok (.aload_n 0, 1) := by decide +kernel
theorem dX3_nearestAfter_13 : decode cX3_nearestAfter 13 = .ok (.getfield 25, 3) := by decide +kernel
theorem dX3_nearestAfter_16 : decode cX3_nearestAfter 16 = .ok (.iload_n 1, 1) := by decide +kernel
theorem dX3_nearestAfter_17 : decode cX3_nearestAfter 17 = .ok (.iaload, 1) := by decide +kernel
theorem dX3_nearestAfter_18 : decode cX3_nearestAfter 18 = .ok (.iload_n 3, 1) := by decide +kernel
theorem dX3_nearestAfter_19 : decode cX3_nearestAfter 19 = .ok (.ishr, 1) := by decide +kernel
theorem dX3_nearestAfter_20 : decode cX3_nearestAfter 20 = .ok (.iconst 1, 1) := by decide +kernel
theorem dX3_nearestAfter_21 : decode cX3_nearestAfter 21 = .ok (.iand, 1) := by decide +kernel
theorem dX3_nearestAfter_22 : decode cX3_nearestAfter 22 = .ok (.ifCond .eq 16, 3) := by decide +kernel
theorem dX3_nearestAfter_25 : decode cX3_nearestAfter 25 = .ok (.aload_n 0, 1) := by decide +kernel
theorem dX3_nearestAfter_26 : decode cX3_nearestAfter 26 = .ok (.getfield 37, 3) := by decide +kernel
theorem dX3_nearestAfter_29 : decode cX3_nearestAfter 29 = .ok (.iload_n 3, 1) := by decide +kernel
theorem dX3_nearestAfter_30 : decode cX3_nearestAfter 30 = .ok (.iaload, 1) := by decide +kernel
theorem dX3_nearestAfter_31 : decode cX3_nearestAfter 31 = .ok (.ifCond .lt 7, 3) := by decide +kernel
theorem dX3_nearestAfter_34 : decode cX3_nearestAfter 34 = .ok (.iconst 1, 1) := by decide +kernel
theorem dX3_nearestAfter_35 : decode cX3_nearestAfter 35 = .ok (.goto 4, 3) := by decide +kernel
theorem dX3_nearestAfter_38 : decode cX3_nearestAfter 38 = .ok (.iconst 0, 1) := by decide +kernel
theorem dX3_nearestAfter_39 : decode cX3_nearestAfter 39 = .ok (.istore 4, 2) := by decide +kernel
theorem dX3_nearestAfter_41 : decode cX3_nearestAfter 41 = .ok (.iload 4, 2) := by decide +kernel
theorem dX3_nearestAfter_43 : decode cX3_nearestAfter 43 = .ok (.ifCond .eq 24, 3) := by decide +kernel
theorem dX3_nearestAfter_46 : decode cX3_nearestAfter 46 = .ok (.iload_n 2, 1) := by decide +kernel
theorem dX3_nearestAfter_47 : decode cX3_nearestAfter 47 = .ok (.ifCond .lt 18, 3) := by decide +kernel
theorem dX3_nearestAfter_50 : decode cX3_nearestAfter 50 = .ok (.aload_n 0, 1) := by decide +kernel
theorem dX3_nearestAfter_51 : decode cX3_nearestAfter 51 = .ok (.getfield 37, 3) := by decide +kernel
theorem dX3_nearestAfter_54 : decode cX3_nearestAfter 54 = .ok (.iload_n 3, 1) := by decide +kernel
theorem dX3_nearestAfter_55 : decode cX3_nearestAfter 55 = .ok (.iaload, 1) := by decide +kernel
theorem dX3_nearestAfter_56 : decode cX3_nearestAfter 56 = .ok (.aload_n 0, 1) := by decide +kernel
theorem dX3_nearestAfter_57 : decode cX3_nearestAfter 57 = .ok (.getfield 37, 3) := by decide +kernel
theorem dX3_nearestAfter_60 : decode cX3_nearestAfter 60 = .ok (.iload_n 2, 1) := by decide +kernel
theorem dX3_nearestAfter_61 : decode cX3_nearestAfter 61 = .ok (.iaload, 1) := by decide +kernel
theorem dX3_nearestAfter_62 : decode cX3_nearestAfter 62 = .ok (.if_icmp .ge 5, 3) := by decide +kernel
theorem dX3_nearestAfter_65 : decode cX3_nearestAfter 65 = .ok (.iload_n 3, 1) := by decide +kernel
theorem dX3_nearestAfter_66 : decode cX3_nearestAfter 66 = .ok (.istore_n 2, 1) := by decide +kernel
theorem dX3_nearestAfter_67 : decode cX3_nearestAfter 67 = .ok (.iinc 3 1, 3) := by decide +kernel
theorem dX3_nearestAfter_70 : decode cX3_nearestAfter 70 = .ok (.goto (-66), 3) := by decide +kernel
theorem dX3_nearestAfter_73 : decode cX3_nearestAfter 73 = .ok (.iload_n 2, 1) := by decide +kernel
theorem dX3_nearestAfter_74 : decode cX3_nearestAfter 74 = .ok (.ireturn, 1) := by decide +kernel
end
section
theorem dX4_init_0 : decode cX4_init 0 = .ok (.aload_n 0, 1) := by decide +kernel
theorem dX4_init_1 : decode cX4_init 1 = .ok (.invokespecial 1, 3) := by decide +kernel
theorem dX4_init_4 : decode cX4_init 4 = .ok (.return_, 1) := by decide +kernel
theorem dX4_put_0 : decode cX4_put 0 = .ok (.aload_n 0, 1) := by decide +kernel
theorem dX4_put_1 : decode cX4_put 1 = .ok (.iconst 1, 1) := by decide +kernel
theorem dX4_put_2 : decode cX4_put 2 = .ok (.putfield 7, 3) := by decide +kernel
theorem dX4_put_5 : decode cX4_put 5 = .ok (.aload_n 0, 1) := by decide +kernel
theorem dX4_put_6 : decode cX4_put 6 = .ok (.lload_n 1, 1) := by decide +kernel
theorem dX4_put_7 : decode cX4_put 7 = .ok (.putfield 13, 3) := by decide +kernel
theorem dX4_put_10 : decode cX4_put 10 = .ok (.aload_n 0, 1) := by decide +kernel
theorem dX4_put_11 : decode cX4_put 11 = .ok (.lload_n 3, 1) := by decide +kernel
theorem dX4_put_12 : decode cX4_put 12 = .ok (.putfield 17, 3) := by decide +kernel
theorem dX4_put_15 : decode cX4_put 15 = .ok (.aload_n 0, 1) := by decide +kernel
theorem dX4_put_16 : decode cX4_put 16 = .ok (.lload 5, 2) := by decide +kernel
theorem dX4_put_18 : decode cX4_put 18 = .ok (.putfield 20, 3) := by decide +kernel
theorem dX4_put_21 : decode cX4_put 21 = .ok (.return_, 1) := by decide +kernel
theorem dX4_lowWhen_0 : decode cX4_lowWhen 0 = .ok (.aload_n 0, 1) := by decide +kernel
theorem dX4_lowWhen_1 : decode cX4_lowWhen 1 = .ok (.getfield 13, 3) := by decide +kernel
theorem dX4_lowWhen_4 : decode cX4_lowWhen 4 = .ok (.lload_n 1, 1) := by decide +kernel
theorem dX4_lowWhen_5 : decode cX4_lowWhen 5 = .ok (.aload_n 0, 1) := by decide +kernel
theorem dX4_lowWhen_6 : decode cX4_lowWhen 6 = .ok (.getfield 20, 3) := by decide +kernel
theorem dX4_lowWhen_9 : decode cX4_lowWhen 9 = .ok (.lsub, 1) := by decide +kernel
theorem dX4_lowWhen_10 : decode cX4_lowWhen 10 = .ok (.iload_n 3, 1) := by decide +kernel
theorem dX4_lowWhen_11 : decode cX4_lowWhen 11 = .ok (.invokestatic 23, 3) := by decide +kernel
theorem dX4_lowWhen_14 : decode cX4_lowWhen 14 = .ok (.ladd, 1) := by decide +kernel
theorem dX4_lowWhen_15 : decode cX4_lowWhen 15 = .ok (.lreturn, 1) := by decide +kernel
theorem dX4_highWhen_0 : decode cX4_highWhen 0 = .ok (.aload_n 0, 1) := by decide +kernel
theorem dX4_highWhen_1 : decode cX4_highWhen 1 = .ok (.getfield 17, 3) := by decide +kernel
theorem dX4_highWhen_4 : decode cX4_highWhen 4 = .ok (.lload_n 1, 1) := by decide +kernel
theorem dX4_highWhen_5 : decode cX4_highWhen 5 = .ok (.aload_n 0, 1) := by decide +kernel
theorem dX4_highWhen_6 : decode cX4_highWhen 6 = .ok (.getfield 20, 3) := by decide +kernel
theorem dX4_highWhen_9 : decode cX4_highWhen 9 = .ok (.lsub, 1) := by decide +kernel
theorem dX4_highWhen_10 : decode cX4_highWhen 10 = .ok (.iload_n 3, 1) := by decide +kernel
theorem dX4_highWhen_11 : decode cX4_highWhen 11 = .ok (.invokestatic 29, 3) := by decide +kernel
theorem dX4_highWhen_14 : decode cX4_highWhen 14 = .ok (.ladd, 1) := by decide +kernel
theorem dX4_highWhen_15 : decode cX4_highWhen 15 = .ok (.lreturn, 1) := by decide +kernel
end
section
theorem dX5_init_0 : decode cX5_init 0 = .ok (.aload_n 0, 1) := by decide +kernel
theorem dX5_init_1 : decode cX5_init 1 = .ok (.invokespecial 1, 3) := by decide +kernel
theorem dX5_init_4 : decode cX5_init 4 = .ok (.aload_n 0, 1) := by decide +kernel
theorem dX5_init_5 : decode cX5_init 5 = .ok (.lload_n 1, 1) := by decide +kernel
theorem dX5_init_6 : decode cX5_init 6 = .ok (.putfield 7, 3) := by decide +kernel
theorem dX5_init_9 : decode cX5_init 9 = .ok (.aload_n 0, 1) := by decide +kernel
theorem dX5_init_10 : decode cX5_init 10 = .ok (.lload_n 3, 1) := by decide +kernel
theorem dX5_init_11 : decode cX5_init 11 = .ok (.putfield 13, 3) := by decide +kernel
theorem dX5_init_14 : decode cX5_init 14 = .ok (.aload_n 0, 1) := by decide +kernel
theorem dX5_init_15 : decode cX5_init 15 = .ok (.iload 5, 2) := by decide +kernel
theorem dX5_init_17 : decode cX5_init 17 = .ok (.putfield 16, 3) := by decide +kernel
theorem dX5_init_20 : decode cX5_init 20 = .ok (.aload_n 0, 1) := by decide +kernel
theorem dX5_init_21 : decode cX5_init 21 = .ok (.iload 6, 2) := by decide +kernel
theorem dX5_init_23 : decode cX5_init 23 = .ok (.putfield 20, 3) := by decide +kernel
theorem dX5_init_26 : decode cX5_init 26 = .ok (.return_, 1) := by decide +kernel
end
section
theorem dX6_init_0 : decode cX6_init 0 = .ok (.aload_n 0, 1) := by decide +kernel
theorem dX6_init_1 : decode cX6_init 1 = .ok (.invokespecial 1, 3) := by decide +kernel
theorem dX6_init_4 : decode cX6_init 4 = .ok (.aload_n 0, 1) := by decide +kernel
theorem dX6_init_5 : decode cX6_init 5 = .ok (.lconst 0, 1) := by decide +kernel
theorem dX6_init_6 : decode cX6_init 6 = .ok (.putfield 7, 3) := by decide +kernel
theorem dX6_init_9 : decode cX6_init 9 = .ok (.aload_n 0, 1) := by decide +kernel
theorem dX6_init_10 : decode cX6_init 10 = .ok (.bipush 10, 2) := by decide +kernel
theorem dX6_init_12 : decode cX6_init 12 = .ok (.anewarray 13, 3) := by decide +kernel
theorem dX6_init_15 : decode cX6_init 15 = .ok (.putfield 15, 3) := by decide +kernel
theorem dX6_init_18 : decode cX6_init 18 = .ok (.aload_n 0, 1) := by decide +kernel
theorem dX6_init_19 : decode cX6_init 19 = .ok (.iconst 0, 1) := by decide +kernel
theorem dX6_init_20 : decode cX6_init 20 = .ok (.putfield 19, 3) := by decide +kernel
theorem dX6_init_23 : decode cX6_init 23 = .ok (.aload_n 0, 1) := by decide +kernel
theorem dX6_init_24 : decode cX6_init 24 = .ok (.sipush 200, 3) := by decide +kernel
theorem dX6_init_27 : decode cX6_init 27 = .ok (.anewarray 23, 3) := by decide +kernel
theorem dX6_init_30 : decode cX6_init 30 = .ok (.putfield 25, 3) := by decide +kernel
theorem dX6_init_33 : decode cX6_init 33 = .ok (.aload_n 0, 1) := by decide +kernel
theorem dX6_init_34 : decode cX6_init 34 = .ok (.iconst 0, 1) := by decide +kernel
theorem dX6_init_35 : decode cX6_init 35 = .ok (.putfield 29, 3) := by decide +kernel
theorem dX6_init_38 : decode cX6_init 38 = .ok (.aload_n 0, 1) := by decide +kernel
theorem dX6_init_39 : decode cX6_init 39 = .ok (.bipush 100, 2) := by decide +kernel
theorem dX6_init_41 : decode cX6_init 41 = .ok (.anewarray 32, 3) := by decide +kernel
theorem dX6_init_44 : decode cX6_init 44 = .ok (.putfield 34, 3) := by decide +kernel
theorem dX6_init_47 : decode cX6_init 47 = .ok (.aload_n 0, 1) := by decide +kernel
theorem dX6_init_48 : decode cX6_init 48 = .ok (.iconst 0, 1) := by decide +kernel
theorem dX6_init_49 : decode cX6_init 49 = .ok (.putfield 38, 3) := by decide +kernel
theorem dX6_init_52 : decode cX6_init 52 = .ok (.aload_n 0, 1) := by decide +kernel
theorem dX6_init_53 : decode cX6_init 53 = .ok (.new 41, 3) := by decide +kernel
theorem dX6_init_56 : decode cX6_init 56 = .ok (.dup, 1) := by decide +kernel
theorem dX6_init_57 : decode cX6_init 57 = .ok (.invokespecial 43, 3) := by decide +kernel
theorem dX6_init_60 : decode cX6_init 60 = .ok (.putfield 44, 3) := by decide +kernel
theorem dX6_init_63 : decode cX6_init 63 = .ok (.aload_n 0, 1) := by decide +kernel
theorem dX6_init_64 : decode cX6_init 64 = .ok (.new 48, 3) := by decide +kernel
theorem dX6_init_67 : decode cX6_init 67 = .ok (.dup, 1) := by decide +kernel
theorem dX6_init_68 : decode cX6_init 68 = .ok (.invokespecial 50, 3) := by decide +kernel
theorem dX6_init_71 : decode cX6_init 71 = .ok (.putfield 51, 3) := by decide +kernel
theorem dX6_init_74 : decode cX6_init 74 = .ok (.return_, 1) := by decide +kernel
theorem dX6_go_0 : decode cX6_go 0 = .ok (.iload_n 1, 1) := by decide +kernel
theorem dX6_go_1 : decode cX6_go 1 = .ok (.iconst 1, 1) := by decide +kernel
theorem dX6_go_2 : decode cX6_go 2 = .ok (.if_icmp .lt 23, 3) := by decide +kernel
theorem dX6_go_5 : decode cX6_go 5 = .ok (.iload_n 1, 1) := by decide +kernel
theorem dX6_go_6 : decode cX6_go 6 = .ok (.ldc 55, 2) := by decide +kernel
theorem dX6_go_8 : decode cX6_go 8 = .ok (.if_icmp .gt 17, 3) := by decide +kernel
theorem dX6_go_11 : decode cX6_go 11 = .ok (.aload_n 0, 1) := by decide +kernel
theorem dX6_go_12 : decode cX6_go 12 = .ok (.getfield 7, 3) := by decide +kernel
theorem dX6_go_15 : decode cX6_go 15 = .ok (.iload_n 1, 1) := by decide +kernel
theorem dX6_go_16 : decode cX6_go 16 = .ok (.i2l, 1) := by decide +kernel
theorem dX6_go_17 : decode cX6_go 17 = .ok (.ladd, 1) := by decide +kernel
theorem dX6_go_18 : decode cX6_go 18 = .ok (.ldc2_w 56, 3) := by decide +kernel
theorem dX6_go_21 : decode cX6_go 21 = .ok (.lcmp, 1) := by decide +kernel
theorem dX6_go_22 : decode cX6_go 22 = .ok (.ifCond .le 7, 3) := by decide +kernel
theorem dX6_go_25 : decode cX6_go 25 = .ok (.ldc2_w 58, 3) := by decide +kernel
theorem dX6_go_28 : decode cX6_go 28 = .ok (.lreturn, 1) := by decide +kernel
theorem dX6_go_29 : decode cX6_go 29 = .ok (.aload_n 0, 1) := by decide +kernel
theorem dX6_go_30 : decode cX6_go 30 = .ok (.dup, 1) := by decide +kernel
theorem dX6_go_31 : decode cX6_go 31 = .ok (.getfield 7, 3) := by decide +kernel
theorem dX6_go_34 : decode cX6_go 34 = .ok (.iload_n 1, 1) := by decide +kernel
theorem dX6_go_35 : decode cX6_go 35 = .ok (.i2l, 1) := by decide +kernel
theorem dX6_go_36 : decode cX6_go 36 = .ok (.ladd, 1) := by decide +kernel
theorem dX6_go_37 : decode cX6_go 37 = .ok (.putfield 7, 3) := by decide +kernel
theorem dX6_go_40 : decode cX6_go 40 = .ok (.aload_n 0, 1) := by decide +kernel
theorem dX6_go_41 : decode cX6_go 41 = .ok (.getfield 7, 3) := by decide +kernel
theorem dX6_go_44 : decode cX6_go 44 = .ok (.lreturn, 1) := by decide +kernel
theorem dX6_member_0 : decode cX6_member 0 = .ok (.iload_n 1, 1) := by decide +kernel
theorem dX6_member_1 : decode cX6_member 1 = .ok (.ifCond .lt 29, 3) := by decide +kernel
theorem dX6_member_4 : decode cX6_member 4 = .ok (.iload_n 1, 1) := by decide +kernel
theorem dX6_member_5 : decode cX6_member 5 = .ok (.iconst 4, 1) := by decide +kernel
theorem dX6_member_6 : decode cX6_member 6 = .ok (.if_icmp .gt 24, 3) := by decide +kernel
theorem dX6_member_9 : decode cX6_member 9 = .ok (.iload_n 2, 1) := by decide +kernel
theorem dX6_member_10 : decode cX6_member 10 = .ok (.ifCond .lt 20, 3) := by decide +kernel
theorem dX6_member_13 : decode cX6_member 13 = .ok (.iload_n 2, 1) := by decide +kernel
theorem dX6_member_14 : decode cX6_member 14 = .ok (.sipush 200, 3) := by decide +kernel
theorem dX6_member_17 : decode cX6_member 17 = .ok (.if_icmp .gt 13, 3) := by decide +kernel
theorem dX6_member_20 : decode cX6_member 20 = .ok (.iload_n 3, 1) := by decide +kernel
theorem dX6_member_21 : decode cX6_member 21 = .ok (.ifCond .lt 9, 3) := by decide +kernel
theorem dX6_member_24 : decode cX6_member 24 = .ok (.iload_n 3, 1) := by decide +kernel
theorem dX6_member_25 : decode cX6_member 25 = .ok (.ldc 60, 2) := by decide +kernel
theorem dX6_member_27 : decode cX6_member 27 = .ok (.if_icmp .le 7, 3) := by decide +kernel
theorem dX6_member_30 : decode cX6_member 30 = .ok (.ldc2_w 58, 3) := by decide +kernel
theorem dX6_member_33 : decode cX6_member 33 = .ok (.lreturn, 1) := by decide +kernel
theorem dX6_member_34 : decode cX6_member 34 = .ok (.aload_n 0, 1) := by decide +kernel
theorem dX6_member_35 : decode cX6_member 35 = .ok (.getfield 19, 3) := by decide +kernel
theorem dX6_member_38 : decode cX6_member 38 = .ok (.bipush 10, 2) := by decide +kernel
theorem dX6_member_40 : decode cX6_member 40 = .ok (.if_icmp .lt 7, 3) := by decide +kernel
theorem dX6_member_43 : decode cX6_member 43 = .ok (.ldc2_w 58, 3) := by decide +kernel
theorem dX6_member_46 : decode cX6_member 46 = .ok (.lreturn, 1) := by decide +kernel
theorem dX6_member_47 : decode cX6_member 47 = .ok (.aload_n 0, 1) := by decide +kernel
theorem dX6_member_48 : decode cX6_member 48 = .ok (.getfield 15, 3) := by decide +kernel
theorem dX6_member_51 : decode cX6_member 51 = .ok (.aload_n 0, 1) := by decide +kernel
theorem dX6_member_52 : decode cX6_member 52 = .ok (.getfield 19, 3) := by decide +kernel
theorem dX6_member_55 : decode cX6_member 55 = .ok (.new 13, 3) := by decide +kernel
theorem dX6_member_58 : decode cX6_member 58 = .ok (.dup, 1) := by decide +kernel
theorem dX6_member_59 : decode cX6_member 59 = .ok (.aload_n 0, 1) := by decide +kernel
theorem dX6_member_60 : decode cX6_member 60 = .ok (.getfield 19, 3) := by decide +kernel
theorem dX6_member_63 : decode cX6_member 63 = .ok (.iload_n 1, 1) := by decide +kernel
theorem dX6_member_64 : decode cX6_member 64 = .ok (.iload_n 2, 1) := by decide +kernel
theorem dX6_member_65 : decode cX6_member 65 = .ok (.iload_n 3, 1) := by decide +kernel
theorem dX6_member_66 : decode cX6_member 66 = .ok (.aload_n 0, 1) := by decide +kernel
theorem dX6_member_67 : decode cX6_member 67 = .ok (.getfield 7, 3) := by decide +kernel
theorem dX6_member_70 : decode cX6_member 70 = .ok (.invokespecial 61, 3) := by decide +kernel
theorem dX6_member_73 : decode cX6_member 73 = .ok (.aastore, 1) := by decide +kernel
theorem dX6_member_74 : decode cX6_member 74 = .ok (.aload_n 0, 1) := by decide +kernel
theorem dX6_member_75 : decode cX6_member 75 = .ok (.dup, 1) := by decide +kernel
theorem dX6_member_76 : decode cX6_member 76 = .ok (.getfield 19, 3) := by decide +kernel
theorem dX6_member_79 : decode cX6_member 79 = .ok (.iconst 1, 1) := by decide +kernel
theorem dX6_member_80 : decode cX6_member 80 = .ok (.iadd, 1) := by decide +kernel
theorem dX6_member_81 : decode cX6_member 81 = .ok (.putfield 19, 3) := by decide +kernel
theorem dX6_member_84 : decode cX6_member 84 = .ok (.aload_n 0, 1) := by decide +kernel
theorem dX6_member_85 : decode cX6_member 85 = .ok (.getfield 19, 3) := by decide +kernel
theorem dX6_member_88 : decode cX6_member 88 = .ok (.iconst 1, 1) := by decide +kernel
theorem dX6_member_89 : decode cX6_member 89 = .ok (.isub, 1) := by decide +kernel
theorem dX6_member_90 : decode cX6_member 90 = .ok (.i2l, 1) := by decide +kernel
theorem dX6_member_91 : decode cX6_member 91 = .ok (.lreturn, 1) := by decide +kernel
theorem dX6_rate_0 : decode cX6_rate 0 = .ok (.aload_n 0, 1) := by decide +kernel
theorem dX6_rate_1 : decode cX6_rate 1 = .ok (.iload_n 1, 1) := by decide +kernel
theorem dX6_rate_2 : decode cX6_rate 2 = .ok (.invokevirtual 64, 3) := by decide +kernel
theorem dX6_rate_5 : decode cX6_rate 5 = .ok (.astore 4, 2) := by decide +kernel
theorem dX6_rate_7 : decode cX6_rate 7 = .ok (.aload 4, 2) := by decide +kernel
theorem dX6_rate_9 : decode cX6_rate 9 = .ok (.ifnull 25, 3) := by decide +kernel
theorem dX6_rate_12 : decode cX6_rate 12 = .ok (.iload_n 2, 1) := by decide +kernel
theorem dX6_rate_13 : decode cX6_rate 13 = .ok (.iconst 1, 1) := by decide +kernel
theorem dX6_rate_14 : decode cX6_rate 14 = .ok (.if_icmp .lt 20, 3) := by decide +kernel
theorem dX6_rate_17 : decode cX6_rate 17 = .ok (.iload_n 2, 1) := by decide +kernel
theorem dX6_rate_18 : decode cX6_rate 18 = .ok (.ldc 60, 2) := by decide +kernel
theorem dX6_rate_20 : decode cX6_rate 20 = .ok (.if_icmp .gt 14, 3) := by decide +kernel
theorem dX6_rate_23 : decode cX6_rate 23 = .ok (.iload_n 3, 1) := by decide +kernel
theorem dX6_rate_24 : decode cX6_rate 24 = .ok (.iconst 1, 1) := by decide +kernel
theorem dX6_rate_25 : decode cX6_rate 25 = .ok (.if_icmp .lt 9, 3) := by decide +kernel
theorem dX6_rate_28 : decode cX6_rate 28 = .ok (.iload_n 3, 1) := by decide +kernel
theorem dX6_rate_29 : decode cX6_rate 29 = .ok (.ldc 60, 2) := by decide +kernel
theorem dX6_rate_31 : decode cX6_rate 31 = .ok (.if_icmp .le 7, 3) := by decide +kernel
theorem dX6_rate_34 : decode cX6_rate 34 = .ok (.ldc2_w 58, 3) := by decide +kernel
theorem dX6_rate_37 : decode cX6_rate 37 = .ok (.lreturn, 1) := by decide +kernel
theorem dX6_rate_38 : decode cX6_rate 38 = .ok (.aload 4, 2) := by decide +kernel
theorem dX6_rate_40 : decode cX6_rate 40 = .ok (.getfield 68, 3) := by decide +kernel
theorem dX6_rate_43 : decode cX6_rate 43 = .ok (.aload_n 0, 1) := by decide +kernel
theorem dX6_rate_44 : decode cX6_rate 44 = .ok (.getfield 7, 3) := by decide +kernel
theorem dX6_rate_47 : decode cX6_rate 47 = .ok (.lcmp, 1) := by decide +kernel
theorem dX6_rate_48 : decode cX6_rate 48 = .ok (.ifCond .eq 7, 3) := by decide +kernel
theorem dX6_rate_51 : decode cX6_rate 51 = .ok (.ldc2_w 58, 3) := by decide +kernel
theorem dX6_rate_54 : decode cX6_rate 54 = .ok (.lreturn, 1) := by decide +kernel
theorem dX6_rate_55 : decode cX6_rate 55 = .ok (.aload 4, 2) := by decide +kernel
theorem dX6_rate_57 : decode cX6_rate 57 = .ok (.iload_n 2, 1) := by decide +kernel
theorem dX6_rate_58 : decode cX6_rate 58 = .ok (.putfield 71, 3) := by decide +kernel
theorem dX6_rate_61 : decode cX6_rate 61 = .ok (.aload 4, 2) := by decide +kernel
theorem dX6_rate_63 : decode cX6_rate 63 = .ok (.iload_n 3, 1) := by decide +kernel
theorem dX6_rate_64 : decode cX6_rate 64 = .ok (.putfield 74, 3) := by decide +kernel
theorem dX6_rate_67 : decode cX6_rate 67 = .ok (.iload_n 2, 1) := by decide +kernel
theorem dX6_rate_68 : decode cX6_rate 68 = .ok (.i2l, 1) := by decide +kernel
theorem dX6_rate_69 : decode cX6_rate 69 = .ok (.iload_n 3, 1) := by decide +kernel
theorem dX6_rate_70 : decode cX6_rate 70 = .ok (.i2l, 1) := by decide +kernel
theorem dX6_rate_71 : decode cX6_rate 71 = .ok (.lsub, 1) := by decide +kernel
theorem dX6_rate_72 : decode cX6_rate 72 = .ok (.invokestatic 77, 3) := by decide +kernel
theorem dX6_rate_75 : decode cX6_rate 75 = .ok (.lstore 5, 2) := by decide +kernel
theorem dX6_rate_77 : decode cX6_rate 77 = .ok (.lload 5, 2) := by decide +kernel
theorem dX6_rate_79 : decode cX6_rate 79 = .ok (.ldc2_w 83, 3) := by decide +kernel
theorem dX6_rate_82 : decode cX6_rate 82 = .ok (.lmul, 1) := by decide +kernel
theorem dX6_rate_83 : decode cX6_rate 83 = .ok (.aload 4, 2) := by decide +kernel
theorem dX6_rate_85 : decode cX6_rate 85 = .ok (.getfield 85, 3) := by decide +kernel
theorem dX6_rate_88 : decode cX6_rate 88 = .ok (.i2l, 1) := by decide +kernel
theorem dX6_rate_89 : decode cX6_rate 89 = .ok (.iload_n 3, 1) := by decide +kernel
theorem dX6_rate_90 : decode cX6_rate 90 = .ok (.i2l, 1) := by decide +kernel
theorem dX6_rate_91 : decode cX6_rate 91 = .ok (.lmul, 1) := by decide +kernel
theorem dX6_rate_92 : decode cX6_rate 92 = .ok (.lcmp, 1) := by decide +kernel
theorem dX6_rate_93 : decode cX6_rate 93 = .ok (.ifCond .gt 7, 3) := by decide +kernel
theorem dX6_rate_96 : decode cX6_rate 96 = .ok (.iconst 1, 1) := by decide +kernel
theorem dX6_rate_97 : decode cX6_rate 97 = .ok (.goto 4, 3) := by decide +kernel
theorem dX6_rate_100 : decode cX6_rate 100 = .ok (.iconst 0, 1) := by decide +kernel
theorem dX6_rate_101 : decode cX6_rate 101 = .ok (.invokestatic 88, 3) := by decide +kernel
theorem dX6_rate_104 : decode cX6_rate 104 = .ok (.lreturn, 1) := by decide +kernel
theorem dX6_lie_0 : decode cX6_lie 0 = .ok (.aload_n 0, 1) := by decide +kernel
theorem dX6_lie_1 : decode cX6_lie 1 = .ok (.iload_n 1, 1) := by decide +kernel
theorem dX6_lie_2 : decode cX6_lie 2 = .ok (.invokevirtual 64, 3) := by decide +kernel
theorem dX6_lie_5 : decode cX6_lie 5 = .ok (.astore 6, 2) := by decide +kernel
theorem dX6_lie_7 : decode cX6_lie 7 = .ok (.aload 6, 2) := by decide +kernel
theorem dX6_lie_9 : decode cX6_lie 9 = .ok (.ifnull 19, 3) := by decide +kernel
theorem dX6_lie_12 : decode cX6_lie 12 = .ok (.aload 6, 2) := by decide +kernel
theorem dX6_lie_14 : decode cX6_lie 14 = .ok (.getfield 92, 3) := by decide +kernel
theorem dX6_lie_17 : decode cX6_lie 17 = .ok (.iconst 4, 1) := by decide +kernel
theorem dX6_lie_18 : decode cX6_lie 18 = .ok (.if_icmp .ne 10, 3) := by decide +kernel
theorem dX6_lie_21 : decode cX6_lie 21 = .ok (.lload 4, 2) := by decide +kernel
theorem dX6_lie_23 : decode cX6_lie 23 = .ok (.lload_n 2, 1) := by decide +kernel
theorem dX6_lie_24 : decode cX6_lie 24 = .ok (.lcmp, 1) := by decide +kernel
theorem dX6_lie_25 : decode cX6_lie 25 = .ok (.ifCond .ge 7, 3) := by decide +kernel
theorem dX6_lie_28 : decode cX6_lie 28 = .ok (.ldc2_w 58, 3) := by decide +kernel
theorem dX6_lie_31 : decode cX6_lie 31 = .ok (.lreturn, 1) := by decide +kernel
theorem dX6_lie_32 : decode cX6_lie 32 = .ok (.lload_n 2, 1) := by decide +kernel
theorem dX6_lie_33 : decode cX6_lie 33 = .ok (.ldc2_w 95, 3) := by decide +kernel
theorem dX6_lie_36 : decode cX6_lie 36 = .ok (.lcmp, 1) := by decide +kernel
theorem dX6_lie_37 : decode cX6_lie 37 = .ok (.ifCond .lt 12, 3) := by decide +kernel
theorem dX6_lie_40 : decode cX6_lie 40 = .ok (.lload 4, 2) := by decide +kernel
theorem dX6_lie_42 : decode cX6_lie 42 = .ok (.ldc2_w 97, 3) := by decide +kernel
theorem dX6_lie_45 : decode cX6_lie 45 = .ok (.lcmp, 1) := by decide +kernel
theorem dX6_lie_46 : decode cX6_lie 46 = .ok (.ifCond .le 7, 3) := by decide +kernel
theorem dX6_lie_49 : decode cX6_lie 49 = .ok (.ldc2_w 58, 3) := by decide +kernel
theorem dX6_lie_52 : decode cX6_lie 52 = .ok (.lreturn, 1) := by decide +kernel
theorem dX6_lie_53 : decode cX6_lie 53 = .ok (.aload 6, 2) := by decide +kernel
theorem dX6_lie_55 : decode cX6_lie 55 = .ok (.lload_n 2, 1) := by decide +kernel
theorem dX6_lie_56 : decode cX6_lie 56 = .ok (.putfield 99, 3) := by decide +kernel
theorem dX6_lie_59 : decode cX6_lie 59 = .ok (.aload 6, 2) := by decide +kernel
theorem dX6_lie_61 : decode cX6_lie 61 = .ok (.lload 4, 2) := by decide +kernel
theorem dX6_lie_63 : decode cX6_lie 63 = .ok (.putfield 102, 3) := by decide +kernel
theorem dX6_lie_66 : decode cX6_lie 66 = .ok (.lconst 1, 1) := by decide +kernel
theorem dX6_lie_67 : decode cX6_lie 67 = .ok (.lreturn, 1) := by decide +kernel
theorem dX6_rest_0 : decode cX6_rest 0 = .ok (.aload_n 0, 1) := by decide +kernel
theorem dX6_rest_1 : decode cX6_rest 1 = .ok (.iload_n 1, 1) := by decide +kernel
theorem dX6_rest_2 : decode cX6_rest 2 = .ok (.invokevirtual 64, 3) := by decide +kernel
theorem dX6_rest_5 : decode cX6_rest 5 = .ok (.astore_n 3, 1) := by decide +kernel
theorem dX6_rest_6 : decode cX6_rest 6 = .ok (.aload_n 3, 1) := by decide +kernel
theorem dX6_rest_7 : decode cX6_rest 7 = .ok (.ifnull 10, 3) := by decide +kernel
theorem dX6_rest_10 : decode cX6_rest 10 = .ok (.aload_n 3, 1) := by decide +kernel
theorem dX6_rest_11 : decode cX6_rest 11 = .ok (.getfield 92, 3) := by decide +kernel
theorem dX6_rest_14 : decode cX6_rest 14 = .ok (.ifCond .ne 7, 3) := by decide +kernel
theorem dX6_rest_17 : decode cX6_rest 17 = .ok (.ldc2_w 58, 3) := by decide +kernel
theorem dX6_rest_20 : decode cX6_rest 20 = .ok (.lreturn, 1) := by decide +kernel
theorem dX6_rest_21 : decode cX6_rest 21 = .ok (.aload_n 3, 1) := by decide +kernel
theorem dX6_rest_22 : decode cX6_rest 22 = .ok (.getfield 105, 3) := by decide +kernel
theorem dX6_rest_25 : decode cX6_rest 25 = .ok (.istore 4, 2) := by decide +kernel
theorem dX6_rest_27 : decode cX6_rest 27 = .ok (.aload_n 3, 1) := by decide +kernel
theorem dX6_rest_28 : decode cX6_rest 28 = .ok (.iload_n 2, 1) := by decide +kernel
theorem dX6_rest_29 : decode cX6_rest 29 = .ok (.putfield 105, 3) := by decide +kernel
theorem dX6_rest_32 : decode cX6_rest 32 = .ok (.iload 4, 2) := by decide +kernel
theorem dX6_rest_34 : decode cX6_rest 34 = .ok (.invokestatic 88, 3) := by decide +kernel
theorem dX6_rest_37 : decode cX6_rest 37 = .ok (.lreturn, 1) := by decide +kernel
theorem dX6_counter_0 : decode cX6_counter 0 = .ok (.aload_n 0, 1) := by decide +kernel
theorem dX6_counter_1 : decode cX6_counter 1 = .ok (.iload_n 1, 1) := by decide +kernel
theorem dX6_counter_2 : decode cX6_counter 2 = .ok (.invokevirtual 64, 3) := by decide +kernel
theorem dX6_counter_5 : decode cX6_counter 5 = .ok (.astore_n 2, 1) := by decide +kernel
theorem dX6_counter_6 : decode cX6_counter 6 = .ok (.aload_n 2, 1) := by decide +kernel
theorem dX6_counter_7 : decode cX6_counter 7 = .ok (.ifnonnull 9, 3) := by decide +kernel
theorem dX6_counter_10 : decode cX6_counter 10 = .ok (.ldc2_w 58, 3) := by decide +kernel
theorem dX6_counter_13 : decode cX6_counter 13 = .ok (.goto 11, 3) := by decide +kernel
theorem dX6_counter_16 : decode cX6_counter 16 = .ok (.aload_n 2, 1) := by decide +kernel
theorem dX6_counter_17 : decode cX6_counter 17 = .ok (.aload_n 0, 1) := by decide +kernel
theorem dX6_counter_18 : decode cX6_counter 18 = .ok (.getfield 7, 3) := by decide +kernel
theorem dX6_counter_21 : decode cX6_counter 21 = .ok (.invokevirtual 109, 3) := by decide +kernel
theorem dX6_counter_24 : decode cX6_counter 24 = .ok (.lreturn, 1) := by decide +kernel
theorem dX6_of_0 : decode cX6_of 0 = .ok (.aload_n 0, 1) := by decide +kernel
theorem dX6_of_1 : decode cX6_of 1 = .ok (.iload_n 1, 1) := by decide +kernel
theorem dX6_of_2 : decode cX6_of 2 = .ok (.invokevirtual 64, 3) := by decide +kernel
theorem dX6_of_5 : decode cX6_of 5 = .ok (.astore_n 3, 1) := by decide +kernel
theorem dX6_of_6 : decode cX6_of 6 = .ok (.aload_n 3, 1) := by decide +kernel
theorem dX6_of_7 : decode cX6_of 7 = .ok (.ifnonnull 7, 3) := by decide +kernel
theorem dX6_of_10 : decode cX6_of 10 = .ok (.ldc2_w 58, 3) := by decide +kernel
theorem dX6_of_13 : decode cX6_of 13 = .ok (.lreturn, 1) := by decide +kernel
theorem dX6_of_14 : decode cX6_of 14 = .ok (.iload_n 2, 1) := by decide +kernel
theorem dX6_of_15 : decode cX6_of 15 = .ok (.tableswitch 116 0 8 #[49, 58, 67, 73, 81, 86, 98, 104, 110], 49) := by decide +kernel
theorem dX6_of_64 : decode cX6_of 64 = .ok (.aload_n 3, 1) := by decide +kernel
theorem dX6_of_65 : decode cX6_of 65 = .ok (.aload_n 0, 1) := by decide +kernel
theorem dX6_of_66 : decode cX6_of 66 = .ok (.getfield 7, 3) := by decide +kernel
theorem dX6_of_69 : decode cX6_of 69 = .ok (.invokevirtual 112, 3) := by decide +kernel
theorem dX6_of_72 : decode cX6_of 72 = .ok (.lreturn, 1) := by decide +kernel
theorem dX6_of_73 : decode cX6_of 73 = .ok (.aload_n 3, 1) := by decide +kernel
theorem dX6_of_74 : decode cX6_of 74 = .ok (.aload_n 0, 1) := by decide +kernel
theorem dX6_of_75 : decode cX6_of 75 = .ok (.getfield 7, 3) := by decide +kernel
theorem dX6_of_78 : decode cX6_of 78 = .ok (.invokevirtual 115, 3) := by decide +kernel
theorem dX6_of_81 : decode cX6_of 81 = .ok (.lreturn, 1) := by decide +kernel
theorem dX6_of_82 : decode cX6_of 82 = .ok (.aload_n 3, 1) := by decide +kernel
theorem dX6_of_83 : decode cX6_of 83 = .ok (.getfield 92, 3) := by decide +kernel
theorem dX6_of_86 : decode cX6_of 86 = .ok (.i2l, 1) := by decide +kernel
theorem dX6_of_87 : decode cX6_of 87 = .ok (.lreturn, 1) := by decide +kernel
theorem dX6_of_88 : decode cX6_of 88 = .ok (.aload_n 3, 1) := by decide +kernel
theorem dX6_of_89 : decode cX6_of 89 = .ok (.getfield 105, 3) := by decide +kernel
theorem dX6_of_92 : decode cX6_of 92 = .ok (.invokestatic 88, 3) := by decide +kernel
theorem dX6_of_95 : decode cX6_of 95 = .ok (.lreturn, 1) := by decide +kernel
theorem dX6_of_96 : decode cX6_of 96 = .ok (.aload_n 3, 1) := by decide +kernel
theorem dX6_of_97 : decode cX6_of 97 = .ok (.getfield 118, 3) := by decide +kernel
theorem dX6_of_100 : decode cX6_of 100 = .ok (.lreturn, 1) := by decide +kernel
theorem dX6_of_101 : decode cX6_of 101 = .ok (.aload_n 3, 1) := by decide +kernel
theorem dX6_of_102 : decode cX6_of 102 = .ok (.aload_n 0, 1) := by decide +kernel
theorem dX6_of_103 : decode cX6_of 103 = .ok (.getfield 7, 3) := by decide +kernel
theorem dX6_of_106 : decode cX6_of 106 = .ok (.invokevirtual 121, 3) := by decide +kernel
theorem dX6_of_109 : decode cX6_of 109 = .ok (.invokestatic 88, 3) := by decide +kernel
theorem dX6_of_112 : decode cX6_of 112 = .ok (.lreturn, 1) := by decide +kernel
theorem dX6_of_113 : decode cX6_of 113 = .ok (.aload_n 3, 1) := by decide +kernel
theorem dX6_of_114 : decode cX6_of 114 = .ok (.getfield 125, 3) := by decide +kernel
theorem dX6_of_117 : decode cX6_of 117 = .ok (.i2l, 1) := by decide +kernel
theorem dX6_of_118 : decode cX6_of 118 = .ok (.lreturn, 1) := by decide +kernel
theorem dX6_of_119 : decode cX6_of 119 = .ok (.aload_n 3, 1) := by decide +kernel
theorem dX6_of_120 : decode cX6_of 120 = .ok (.getfield 128, 3) := by decide +kernel
theorem dX6_of_123 : decode cX6_of 123 = .ok (.i2l, 1) := by decide +kernel
theorem dX6_of_124 : decode cX6_of 124 = .ok (.lreturn, 1) := by decide +kernel
theorem dX6_of_125 : decode cX6_of 125 = .ok (.aload_n 3, 1) := by decide +kernel
theorem dX6_of_126 : decode cX6_of 126 = .ok (.invokevirtual 131, 3) := by decide +kernel
theorem dX6_of_129 : decode cX6_of 129 = .ok (.i2l, 1) := by decide +kernel
theorem dX6_of_130 : decode cX6_of 130 = .ok (.lreturn, 1) := by decide +kernel
theorem dX6_of_131 : decode cX6_of 131 = .ok (.ldc2_w 58, 3) := by decide +kernel
theorem dX6_of_134 : decode cX6_of 134 = .ok (.lreturn, 1) := by decide +kernel
theorem dX6_ask_0 : decode cX6_ask 0 = .ok (.aload_n 0, 1) := by decide +kernel
theorem dX6_ask_1 : decode cX6_ask 1 = .ok (.iload_n 1, 1) := by decide +kernel
theorem dX6_ask_2 : decode cX6_ask 2 = .ok (.invokevirtual 64, 3) := by decide +kernel
theorem dX6_ask_5 : decode cX6_ask 5 = .ok (.astore_n 3, 1) := by decide +kernel
theorem dX6_ask_6 : decode cX6_ask 6 = .ok (.aload_n 0, 1) := by decide +kernel
theorem dX6_ask_7 : decode cX6_ask 7 = .ok (.iload_n 2, 1) := by decide +kernel
theorem dX6_ask_8 : decode cX6_ask 8 = .ok (.invokevirtual 64, 3) := by decide +kernel
theorem dX6_ask_11 : decode cX6_ask 11 = .ok (.astore 4, 2) := by decide +kernel
theorem dX6_ask_13 : decode cX6_ask 13 = .ok (.aload_n 3, 1) := by decide +kernel
theorem dX6_ask_14 : decode cX6_ask 14 = .ok (.ifnull 13, 3) := by decide +kernel
theorem dX6_ask_17 : decode cX6_ask 17 = .ok (.aload 4, 2) := by decide +kernel
theorem dX6_ask_19 : decode cX6_ask 19 = .ok (.ifnull 8, 3) := by decide +kernel
theorem dX6_ask_22 : decode cX6_ask 22 = .ok (.iload_n 1, 1) := by decide +kernel
theorem dX6_ask_23 : decode cX6_ask 23 = .ok (.iload_n 2, 1) := by decide +kernel
theorem dX6_ask_24 : decode cX6_ask 24 = .ok (.if_icmp .ne 7, 3) := by decide +kernel
theorem dX6_ask_27 : decode cX6_ask 27 = .ok (.ldc2_w 58, 3) := by decide +kernel
theorem dX6_ask_30 : decode cX6_ask 30 = .ok (.lreturn, 1) := by decide +kernel
theorem dX6_ask_31 : decode cX6_ask 31 = .ok (.aload_n 3, 1) := by decide +kernel
theorem dX6_ask_32 : decode cX6_ask 32 = .ok (.getfield 92, 3) := by decide +kernel
theorem dX6_ask_35 : decode cX6_ask 35 = .ok (.ifCond .eq 20, 3) := by decide +kernel
theorem dX6_ask_38 : decode cX6_ask 38 = .ok (.aload_n 3, 1) := by decide +kernel
theorem dX6_ask_39 : decode cX6_ask 39 = .ok (.getfield 105, 3) := by decide +kernel
theorem dX6_ask_42 : decode cX6_ask 42 = .ok (.ifCond .ne 13, 3) := by decide +kernel
theorem dX6_ask_45 : decode cX6_ask 45 = .ok (.aload_n 0, 1) := by decide +kernel
theorem dX6_ask_46 : decode cX6_ask 46 = .ok (.getfield 29, 3) := by decide +kernel
theorem dX6_ask_49 : decode cX6_ask 49 = .ok (.sipush 200, 3) := by decide +kernel
theorem dX6_ask_52 : decode cX6_ask 52 = .ok (.if_icmp .lt 7, 3) := by decide +kernel
theorem dX6_ask_55 : decode cX6_ask 55 = .ok (.ldc2_w 58, 3) := by decide +kernel
theorem dX6_ask_58 : decode cX6_ask 58 = .ok (.lreturn, 1) := by decide +kernel
theorem dX6_ask_59 : decode cX6_ask 59 = .ok (.aload_n 0, 1) := by decide +kernel
theorem dX6_ask_60 : decode cX6_ask 60 = .ok (.new 23, 3) := by decide +kernel
theorem dX6_ask_63 : decode cX6_ask 63 = .ok (.dup, 1) := by decide +kernel
theorem dX6_ask_64 : decode cX6_ask 64 = .ok (.aload_n 3, 1) := by decide +kernel
theorem dX6_ask_65 : decode cX6_ask 65 = .ok (.aload 4, 2) := by decide +kernel
theorem dX6_ask_67 : decode cX6_ask 67 = .ok (.aload_n 3, 1) := by decide +kernel
theorem dX6_ask_68 : decode cX6_ask 68 = .ok (.aload_n 0, 1) := by decide +kernel
theorem dX6_ask_69 : decode cX6_ask 69 = .ok (.getfield 7, 3) := by decide +kernel
theorem dX6_ask_72 : decode cX6_ask 72 = .ok (.invokevirtual 109, 3) := by decide +kernel
theorem dX6_ask_75 : decode cX6_ask 75 = .ok (.invokespecial 135, 3) := by decide +kernel
theorem dX6_ask_78 : decode cX6_ask 78 = .ok (.invokevirtual 138, 3) := by decide +kernel
theorem dX6_ask_81 : decode cX6_ask 81 = .ok (.lreturn, 1) := by decide +kernel
theorem dX6_deliver_0 : decode cX6_deliver 0 = .ok (.aload_n 0, 1) := by decide +kernel
theorem dX6_deliver_1 : decode cX6_deliver 1 = .ok (.iload_n 1, 1) := by decide +kernel
theorem dX6_deliver_2 : decode cX6_deliver 2 = .ok (.invokevirtual 142, 3) := by decide +kernel
theorem dX6_deliver_5 : decode cX6_deliver 5 = .ok (.astore_n 2, 1) := by decide +kernel
theorem dX6_deliver_6 : decode cX6_deliver 6 = .ok (.aload_n 2, 1) := by decide +kernel
theorem dX6_deliver_7 : decode cX6_deliver 7 = .ok (.ifnonnull 7, 3) := by decide +kernel
theorem dX6_deliver_10 : decode cX6_deliver 10 = .ok (.ldc2_w 58, 3) := by decide +kernel
theorem dX6_deliver_13 : decode cX6_deliver 13 = .ok (.lreturn, 1) := by decide +kernel
theorem dX6_deliver_14 : decode cX6_deliver 14 = .ok (.aload_n 2, 1) := by decide +kernel
theorem dX6_deliver_15 : decode cX6_deliver 15 = .ok (.getfield 146, 3) := by decide +kernel
theorem dX6_deliver_18 : decode cX6_deliver 18 = .ok (.ifCond .ne 10, 3) := by decide +kernel
theorem dX6_deliver_21 : decode cX6_deliver 21 = .ok (.aload_n 2, 1) := by decide +kernel
theorem dX6_deliver_22 : decode cX6_deliver 22 = .ok (.getfield 149, 3) := by decide +kernel
theorem dX6_deliver_25 : decode cX6_deliver 25 = .ok (.goto 7, 3) := by decide +kernel
theorem dX6_deliver_28 : decode cX6_deliver 28 = .ok (.aload_n 2, 1) := by decide +kernel
theorem dX6_deliver_29 : decode cX6_deliver 29 = .ok (.getfield 153, 3) := by decide +kernel
theorem dX6_deliver_32 : decode cX6_deliver 32 = .ok (.astore_n 3, 1) := by decide +kernel
theorem dX6_deliver_33 : decode cX6_deliver 33 = .ok (.aload_n 3, 1) := by decide +kernel
theorem dX6_deliver_34 : decode cX6_deliver 34 = .ok (.getfield 105, 3) := by decide +kernel
theorem dX6_deliver_37 : decode cX6_deliver 37 = .ok (.ifCond .eq 10, 3) := by decide +kernel
theorem dX6_deliver_40 : decode cX6_deliver 40 = .ok (.aload_n 2, 1) := by decide +kernel
theorem dX6_deliver_41 : decode cX6_deliver 41 = .ok (.iconst 3, 1) := by decide +kernel
theorem dX6_deliver_42 : decode cX6_deliver 42 = .ok (.putfield 146, 3) := by decide +kernel
theorem dX6_deliver_45 : decode cX6_deliver 45 = .ok (.lconst 0, 1) := by decide +kernel
theorem dX6_deliver_46 : decode cX6_deliver 46 = .ok (.lreturn, 1) := by decide +kernel
theorem dX6_deliver_47 : decode cX6_deliver 47 = .ok (.aload_n 2, 1) := by decide +kernel
theorem dX6_deliver_48 : decode cX6_deliver 48 = .ok (.getfield 146, 3) := by decide +kernel
theorem dX6_deliver_51 : decode cX6_deliver 51 = .ok (.ifCond .ne 13, 3) := by decide +kernel
theorem dX6_deliver_54 : decode cX6_deliver 54 = .ok (.aload_n 2, 1) := by decide +kernel
theorem dX6_deliver_55 : decode cX6_deliver 55 = .ok (.aload_n 0, 1) := by decide +kernel
theorem dX6_deliver_56 : decode cX6_deliver 56 = .ok (.getfield 7, 3) := by decide +kernel
theorem dX6_deliver_59 : decode cX6_deliver 59 = .ok (.invokevirtual 156, 3) := by decide +kernel
theorem dX6_deliver_62 : decode cX6_deliver 62 = .ok (.lconst 1, 1) := by decide +kernel
theorem dX6_deliver_63 : decode cX6_deliver 63 = .ok (.lreturn, 1) := by decide +kernel
theorem dX6_deliver_64 : decode cX6_deliver 64 = .ok (.aload_n 2, 1) := by decide +kernel
theorem dX6_deliver_65 : decode cX6_deliver 65 = .ok (.aload_n 0, 1) := by decide +kernel
theorem dX6_deliver_66 : decode cX6_deliver 66 = .ok (.getfield 7, 3) := by decide +kernel
theorem dX6_deliver_69 : decode cX6_deliver 69 = .ok (.invokevirtual 160, 3) := by decide +kernel
theorem dX6_deliver_72 : decode cX6_deliver 72 = .ok (.ldc2_w 163, 3) := by decide +kernel
theorem dX6_deliver_75 : decode cX6_deliver 75 = .ok (.lreturn, 1) := by decide +kernel
theorem dX6_lose_0 : decode cX6_lose 0 = .ok (.aload_n 0, 1) := by decide +kernel
theorem dX6_lose_1 : decode cX6_lose 1 = .ok (.iload_n 1, 1) := by decide +kernel
theorem dX6_lose_2 : decode cX6_lose 2 = .ok (.invokevirtual 142, 3) := by decide +kernel
theorem dX6_lose_5 : decode cX6_lose 5 = .ok (.astore_n 2, 1) := by decide +kernel
theorem dX6_lose_6 : decode cX6_lose 6 = .ok (.aload_n 2, 1) := by decide +kernel
theorem dX6_lose_7 : decode cX6_lose 7 = .ok (.ifnonnull 7, 3) := by decide +kernel
theorem dX6_lose_10 : decode cX6_lose 10 = .ok (.ldc2_w 58, 3) := by decide +kernel
theorem dX6_lose_13 : decode cX6_lose 13 = .ok (.lreturn, 1) := by decide +kernel
theorem dX6_lose_14 : decode cX6_lose 14 = .ok (.aload_n 2, 1) := by decide +kernel
theorem dX6_lose_15 : decode cX6_lose 15 = .ok (.iconst 3, 1) := by decide +kernel
theorem dX6_lose_16 : decode cX6_lose 16 = .ok (.putfield 146, 3) := by decide +kernel
theorem dX6_lose_19 : decode cX6_lose 19 = .ok (.lconst 1, 1) := by decide +kernel
theorem dX6_lose_20 : decode cX6_lose 20 = .ok (.lreturn, 1) := by decide +kernel
theorem dX6_twice_0 : decode cX6_twice 0 = .ok (.aload_n 0, 1) := by decide +kernel
theorem dX6_twice_1 : decode cX6_twice 1 = .ok (.iload_n 1, 1) := by decide +kernel
theorem dX6_twice_2 : decode cX6_twice 2 = .ok (.invokevirtual 142, 3) := by decide +kernel
theorem dX6_twice_5 : decode cX6_twice 5 = .ok (.astore_n 2, 1) := by decide +kernel
theorem dX6_twice_6 : decode cX6_twice 6 = .ok (.aload_n 2, 1) := by decide +kernel
theorem dX6_twice_7 : decode cX6_twice 7 = .ok (.ifnull 13, 3) := by decide +kernel
theorem dX6_twice_10 : decode cX6_twice 10 = .ok (.aload_n 0, 1) := by decide +kernel
theorem dX6_twice_11 : decode cX6_twice 11 = .ok (.getfield 29, 3) := by decide +kernel
theorem dX6_twice_14 : decode cX6_twice 14 = .ok (.sipush 200, 3) := by decide +kernel
theorem dX6_twice_17 : decode cX6_twice 17 = .ok (.if_icmp .lt 7, 3) := by decide +kernel
theorem dX6_twice_20 : decode cX6_twice 20 = .ok (.ldc2_w 58, 3) := by decide +kernel
theorem dX6_twice_23 : decode cX6_twice 23 = .ok (.lreturn, 1) := by decide +kernel
theorem dX6_twice_24 : decode cX6_twice 24 = .ok (.new 23, 3) := by decide +kernel
theorem dX6_twice_27 : decode cX6_twice 27 = .ok (.dup, 1) := by decide +kernel
theorem dX6_twice_28 : decode cX6_twice 28 = .ok (.aload_n 2, 1) := by decide +kernel
theorem dX6_twice_29 : decode cX6_twice 29 = .ok (.getfield 153, 3) := by decide +kernel
theorem dX6_twice_32 : decode cX6_twice 32 = .ok (.aload_n 2, 1) := by decide +kernel
theorem dX6_twice_33 : decode cX6_twice 33 = .ok (.getfield 149, 3) := by decide +kernel
theorem dX6_twice_36 : decode cX6_twice 36 = .ok (.aload_n 2, 1) := by decide +kernel
theorem dX6_twice_37 : decode cX6_twice 37 = .ok (.getfield 165, 3) := by decide +kernel
theorem dX6_twice_40 : decode cX6_twice 40 = .ok (.invokespecial 135, 3) := by decide +kernel
theorem dX6_twice_43 : decode cX6_twice 43 = .ok (.astore_n 3, 1) := by decide +kernel
theorem dX6_twice_44 : decode cX6_twice 44 = .ok (.aload_n 3, 1) := by decide +kernel
theorem dX6_twice_45 : decode cX6_twice 45 = .ok (.aload_n 2, 1) := by decide +kernel
theorem dX6_twice_46 : decode cX6_twice 46 = .ok (.getfield 146, 3) := by decide +kernel
theorem dX6_twice_49 : decode cX6_twice 49 = .ok (.putfield 146, 3) := by decide +kernel
theorem dX6_twice_52 : decode cX6_twice 52 = .ok (.aload_n 3, 1) := by decide +kernel
theorem dX6_twice_53 : decode cX6_twice 53 = .ok (.aload_n 2, 1) := by decide +kernel
theorem dX6_twice_54 : decode cX6_twice 54 = .ok (.getfield 168, 3) := by decide +kernel
theorem dX6_twice_57 : decode cX6_twice 57 = .ok (.putfield 168, 3) := by decide +kernel
theorem dX6_twice_60 : decode cX6_twice 60 = .ok (.aload_n 3, 1) := by decide +kernel
theorem dX6_twice_61 : decode cX6_twice 61 = .ok (.aload_n 2, 1) := by decide +kernel
theorem dX6_twice_62 : decode cX6_twice 62 = .ok (.getfield 171, 3) := by decide +kernel
theorem dX6_twice_65 : decode cX6_twice 65 = .ok (.putfield 171, 3) := by decide +kernel
theorem dX6_twice_68 : decode cX6_twice 68 = .ok (.aload_n 3, 1) := by decide +kernel
theorem dX6_twice_69 : decode cX6_twice 69 = .ok (.aload_n 2, 1) := by decide +kernel
theorem dX6_twice_70 : decode cX6_twice 70 = .ok (.getfield 174, 3) := by decide +kernel
theorem dX6_twice_73 : decode cX6_twice 73 = .ok (.putfield 174, 3) := by decide +kernel
theorem dX6_twice_76 : decode cX6_twice 76 = .ok (.aload_n 0, 1) := by decide +kernel
theorem dX6_twice_77 : decode cX6_twice 77 = .ok (.aload_n 3, 1) := by decide +kernel
theorem dX6_twice_78 : decode cX6_twice 78 = .ok (.invokevirtual 138, 3) := by decide +kernel
theorem dX6_twice_81 : decode cX6_twice 81 = .ok (.lreturn, 1) := by decide +kernel
theorem dX6_letter_0 : decode cX6_letter 0 = .ok (.aload_n 0, 1) := by decide +kernel
theorem dX6_letter_1 : decode cX6_letter 1 = .ok (.iload_n 1, 1) := by decide +kernel
theorem dX6_letter_2 : decode cX6_letter 2 = .ok (.invokevirtual 177, 3) := by decide +kernel
theorem dX6_letter_5 : decode cX6_letter 5 = .ok (.astore_n 3, 1) := by decide +kernel
theorem dX6_letter_6 : decode cX6_letter 6 = .ok (.aload_n 3, 1) := by decide +kernel
theorem dX6_letter_7 : decode cX6_letter 7 = .ok (.ifnonnull 7, 3) := by decide +kernel
theorem dX6_letter_10 : decode cX6_letter 10 = .ok (.ldc2_w 58, 3) := by decide +kernel
theorem dX6_letter_13 : decode cX6_letter 13 = .ok (.lreturn, 1) := by decide +kernel
theorem dX6_letter_14 : decode cX6_letter 14 = .ok (.iload_n 2, 1) := by decide +kernel
theorem dX6_letter_15 : decode cX6_letter 15 = .ok (.tableswitch 93 0 4 #[33, 42, 51, 57, 75], 33) := by decide +kernel
theorem dX6_letter_48 : decode cX6_letter 48 = .ok (.aload_n 3, 1) := by decide +kernel
theorem dX6_letter_49 : decode cX6_letter 49 = .ok (.getfield 153, 3) := by decide +kernel
theorem dX6_letter_52 : decode cX6_letter 52 = .ok (.getfield 180, 3) := by decide +kernel
theorem dX6_letter_55 : decode cX6_letter 55 = .ok (.i2l, 1) := by decide +kernel
theorem dX6_letter_56 : decode cX6_letter 56 = .ok (.lreturn, 1) := by decide +kernel
theorem dX6_letter_57 : decode cX6_letter 57 = .ok (.aload_n 3, 1) := by decide +kernel
theorem dX6_letter_58 : decode cX6_letter 58 = .ok (.getfield 149, 3) := by decide +kernel
theorem dX6_letter_61 : decode cX6_letter 61 = .ok (.getfield 180, 3) := by decide +kernel
theorem dX6_letter_64 : decode cX6_letter 64 = .ok (.i2l, 1) := by decide +kernel
theorem dX6_letter_65 : decode cX6_letter 65 = .ok (.lreturn, 1) := by decide +kernel
theorem dX6_letter_66 : decode cX6_letter 66 = .ok (.aload_n 3, 1) := by decide +kernel
theorem dX6_letter_67 : decode cX6_letter 67 = .ok (.getfield 146, 3) := by decide +kernel
theorem dX6_letter_70 : decode cX6_letter 70 = .ok (.i2l, 1) := by decide +kernel
theorem dX6_letter_71 : decode cX6_letter 71 = .ok (.lreturn, 1) := by decide +kernel
theorem dX6_letter_72 : decode cX6_letter 72 = .ok (.aload_n 3, 1) := by decide +kernel
theorem dX6_letter_73 : decode cX6_letter 73 = .ok (.getfield 168, 3) := by decide +kernel
theorem dX6_letter_76 : decode cX6_letter 76 = .ok (.ifCond .eq 10, 3) := by decide +kernel
theorem dX6_letter_79 : decode cX6_letter 79 = .ok (.aload_n 3, 1) := by decide +kernel
theorem dX6_letter_80 : decode cX6_letter 80 = .ok (.getfield 171, 3) := by decide +kernel
theorem dX6_letter_83 : decode cX6_letter 83 = .ok (.goto 6, 3) := by decide +kernel
theorem dX6_letter_86 : decode cX6_letter 86 = .ok (.ldc2_w 58, 3) := by decide +kernel
theorem dX6_letter_89 : decode cX6_letter 89 = .ok (.lreturn, 1) := by decide +kernel
theorem dX6_letter_90 : decode cX6_letter 90 = .ok (.aload_n 3, 1) := by decide +kernel
theorem dX6_letter_91 : decode cX6_letter 91 = .ok (.getfield 168, 3) := by decide +kernel
theorem dX6_letter_94 : decode cX6_letter 94 = .ok (.ifCond .eq 10, 3) := by decide +kernel
theorem dX6_letter_97 : decode cX6_letter 97 = .ok (.aload_n 3, 1) := by decide +kernel
theorem dX6_letter_98 : decode cX6_letter 98 = .ok (.getfield 174, 3) := by decide +kernel
theorem dX6_letter_101 : decode cX6_letter 101 = .ok (.goto 6, 3) := by decide +kernel
theorem dX6_letter_104 : decode cX6_letter 104 = .ok (.ldc2_w 58, 3) := by decide +kernel
theorem dX6_letter_107 : decode cX6_letter 107 = .ok (.lreturn, 1) := by decide +kernel
theorem dX6_letter_108 : decode cX6_letter 108 = .ok (.ldc2_w 58, 3) := by decide +kernel
theorem dX6_letter_111 : decode cX6_letter 111 = .ok (.lreturn, 1) := by decide +kernel
theorem dX6_heard_0 : decode cX6_heard 0 = .ok (.aload_n 0, 1) := by decide +kernel
theorem dX6_heard_1 : decode cX6_heard 1 = .ok (.iload_n 1, 1) := by decide +kernel
theorem dX6_heard_2 : decode cX6_heard 2 = .ok (.invokevirtual 64, 3) := by decide +kernel
theorem dX6_heard_5 : decode cX6_heard 5 = .ok (.astore 4, 2) := by decide +kernel
theorem dX6_heard_7 : decode cX6_heard 7 = .ok (.aload 4, 2) := by decide +kernel
theorem dX6_heard_9 : decode cX6_heard 9 = .ok (.ifnull 20, 3) := by decide +kernel
theorem dX6_heard_12 : decode cX6_heard 12 = .ok (.aload_n 0, 1) := by decide +kernel
theorem dX6_heard_13 : decode cX6_heard 13 = .ok (.iload_n 2, 1) := by decide +kernel
theorem dX6_heard_14 : decode cX6_heard 14 = .ok (.invokevirtual 64, 3) := by decide +kernel
theorem dX6_heard_17 : decode cX6_heard 17 = .ok (.ifnull 12, 3) := by decide +kernel
theorem dX6_heard_20 : decode cX6_heard 20 = .ok (.aload 4, 2) := by decide +kernel
theorem dX6_heard_22 : decode cX6_heard 22 = .ok (.iload_n 2, 1) := by decide +kernel
theorem dX6_heard_23 : decode cX6_heard 23 = .ok (.invokevirtual 183, 3) := by decide +kernel
theorem dX6_heard_26 : decode cX6_heard 26 = .ok (.ifCond .ne 7, 3) := by decide +kernel
theorem dX6_heard_29 : decode cX6_heard 29 = .ok (.ldc2_w 58, 3) := by decide +kernel
theorem dX6_heard_32 : decode cX6_heard 32 = .ok (.lreturn, 1) := by decide +kernel
theorem dX6_heard_33 : decode cX6_heard 33 = .ok (.iload_n 3, 1) := by decide +kernel
theorem dX6_heard_34 : decode cX6_heard 34 = .ok (.lookupswitch 48 #[(0, 26), (1, 37)], 26) := by decide +kernel
theorem dX6_heard_60 : decode cX6_heard 60 = .ok (.aload 4, 2) := by decide +kernel
theorem dX6_heard_62 : decode cX6_heard 62 = .ok (.iload_n 2, 1) := by decide +kernel
theorem dX6_heard_63 : decode cX6_heard 63 = .ok (.aload_n 0, 1) := by decide +kernel
theorem dX6_heard_64 : decode cX6_heard 64 = .ok (.getfield 7, 3) := by decide +kernel
theorem dX6_heard_67 : decode cX6_heard 67 = .ok (.invokevirtual 187, 3) := by decide +kernel
theorem dX6_heard_70 : decode cX6_heard 70 = .ok (.lreturn, 1) := by decide +kernel
theorem dX6_heard_71 : decode cX6_heard 71 = .ok (.aload 4, 2) := by decide +kernel
theorem dX6_heard_73 : decode cX6_heard 73 = .ok (.iload_n 2, 1) := by decide +kernel
theorem dX6_heard_74 : decode cX6_heard 74 = .ok (.aload_n 0, 1) := by decide +kernel
theorem dX6_heard_75 : decode cX6_heard 75 = .ok (.getfield 7, 3) := by decide +kernel
theorem dX6_heard_78 : decode cX6_heard 78 = .ok (.invokevirtual 191, 3) := by decide +kernel
theorem dX6_heard_81 : decode cX6_heard 81 = .ok (.lreturn, 1) := by decide +kernel
theorem dX6_heard_82 : decode cX6_heard 82 = .ok (.ldc2_w 58, 3) := by decide +kernel
theorem dX6_heard_85 : decode cX6_heard 85 = .ok (.lreturn, 1) := by decide +kernel
theorem dX6_votes_0 : decode cX6_votes 0 = .ok (.aload_n 0, 1) := by decide +kernel
theorem dX6_votes_1 : decode cX6_votes 1 = .ok (.iload_n 1, 1) := by decide +kernel
theorem dX6_votes_2 : decode cX6_votes 2 = .ok (.invokevirtual 64, 3) := by decide +kernel
theorem dX6_votes_5 : decode cX6_votes 5 = .ok (.astore 4, 2) := by decide +kernel
theorem dX6_votes_7 : decode cX6_votes 7 = .ok (.aload 4, 2) := by decide +kernel
theorem dX6_votes_9 : decode cX6_votes 9 = .ok (.ifnonnull 7, 3) := by decide +kernel
theorem dX6_votes_12 : decode cX6_votes 12 = .ok (.ldc2_w 58, 3) := by decide +kernel
theorem dX6_votes_15 : decode cX6_votes 15 = .ok (.lreturn, 1) := by decide +kernel
theorem dX6_votes_16 : decode cX6_votes 16 = .ok (.aload_n 0, 1) := by decide +kernel
theorem dX6_votes_17 : decode cX6_votes 17 = .ok (.aload 4, 2) := by decide +kernel
theorem dX6_votes_19 : decode cX6_votes 19 = .ok (.invokevirtual 194, 3) := by decide +kernel
theorem dX6_votes_22 : decode cX6_votes 22 = .ok (.aload_n 0, 1) := by decide +kernel
theorem dX6_votes_23 : decode cX6_votes 23 = .ok (.getfield 44, 3) := by decide +kernel
theorem dX6_votes_26 : decode cX6_votes 26 = .ok (.lload_n 2, 1) := by decide +kernel
theorem dX6_votes_27 : decode cX6_votes 27 = .ok (.invokevirtual 198, 3) := by decide +kernel
theorem dX6_votes_30 : decode cX6_votes 30 = .ok (.i2l, 1) := by decide +kernel
theorem dX6_votes_31 : decode cX6_votes 31 = .ok (.lreturn, 1) := by decide +kernel
theorem dX6_council_0 : decode cX6_council 0 = .ok (.aload_n 0, 1) := by decide +kernel
theorem dX6_council_1 : decode cX6_council 1 = .ok (.iload_n 1, 1) := by decide +kernel
theorem dX6_council_2 : decode cX6_council 2 = .ok (.invokevirtual 64, 3) := by decide +kernel
theorem dX6_council_5 : decode cX6_council 5 = .ok (.astore 4, 2) := by decide +kernel
theorem dX6_council_7 : decode cX6_council 7 = .ok (.aload 4, 2) := by decide +kernel
theorem dX6_council_9 : decode cX6_council 9 = .ok (.ifnull 12, 3) := by decide +kernel
theorem dX6_council_12 : decode cX6_council 12 = .ok (.iload_n 3, 1) := by decide +kernel
theorem dX6_council_13 : decode cX6_council 13 = .ok (.ifCond .lt 8, 3) := by decide +kernel
theorem dX6_council_16 : decode cX6_council 16 = .ok (.iload_n 3, 1) := by decide +kernel
theorem dX6_council_17 : decode cX6_council 17 = .ok (.iconst 4, 1) := by decide +kernel
theorem dX6_council_18 : decode cX6_council 18 = .ok (.if_icmp .le 7, 3) := by decide +kernel
theorem dX6_council_21 : decode cX6_council 21 = .ok (.ldc2_w 58, 3) := by decide +kernel
theorem dX6_council_24 : decode cX6_council 24 = .ok (.lreturn, 1) := by decide +kernel
theorem dX6_council_25 : decode cX6_council 25 = .ok (.aload_n 0, 1) := by decide +kernel
theorem dX6_council_26 : decode cX6_council 26 = .ok (.aload 4, 2) := by decide +kernel
theorem dX6_council_28 : decode cX6_council 28 = .ok (.invokevirtual 194, 3) := by decide +kernel
theorem dX6_council_31 : decode cX6_council 31 = .ok (.iload_n 2, 1) := by decide +kernel
theorem dX6_council_32 : decode cX6_council 32 = .ok (.ifCond .lt 14, 3) := by decide +kernel
theorem dX6_council_35 : decode cX6_council 35 = .ok (.iload_n 2, 1) := by decide +kernel
theorem dX6_council_36 : decode cX6_council 36 = .ok (.aload_n 0, 1) := by decide +kernel
theorem dX6_council_37 : decode cX6_council 37 = .ok (.getfield 44, 3) := by decide +kernel
theorem dX6_council_40 : decode cX6_council 40 = .ok (.getfield 202, 3) := by decide +kernel
theorem dX6_council_43 : decode cX6_council 43 = .ok (.if_icmp .lt 7, 3) := by decide +kernel
theorem dX6_council_46 : decode cX6_council 46 = .ok (.ldc2_w 58, 3) := by decide +kernel
theorem dX6_council_49 : decode cX6_council 49 = .ok (.lreturn, 1) := by decide +kernel
theorem dX6_council_50 : decode cX6_council 50 = .ok (.aload_n 0, 1) := by decide +kernel
theorem dX6_council_51 : decode cX6_council 51 = .ok (.getfield 44, 3) := by decide +kernel
theorem dX6_council_54 : decode cX6_council 54 = .ok (.getfield 202, 3) := by decide +kernel
theorem dX6_council_57 : decode cX6_council 57 = .ok (.iload_n 2, 1) := by decide +kernel
theorem dX6_council_58 : decode cX6_council 58 = .ok (.isub, 1) := by decide +kernel
theorem dX6_council_59 : decode cX6_council 59 = .ok (.istore 5, 2) := by decide +kernel
theorem dX6_council_61 : decode cX6_council 61 = .ok (.iload_n 3, 1) := by decide +kernel
theorem dX6_council_62 : decode cX6_council 62 = .ok (.ifCond .ne 12, 3) := by decide +kernel
theorem dX6_council_65 : decode cX6_council 65 = .ok (.aload_n 0, 1) := by decide +kernel
theorem dX6_council_66 : decode cX6_council 66 = .ok (.getfield 44, 3) := by decide +kernel
theorem dX6_council_69 : decode cX6_council 69 = .ok (.getfield 202, 3) := by decide +kernel
theorem dX6_council_72 : decode cX6_council 72 = .ok (.i2l, 1) := by decide +kernel
theorem dX6_council_73 : decode cX6_council 73 = .ok (.lreturn, 1) := by decide +kernel
theorem dX6_council_74 : decode cX6_council 74 = .ok (.iload_n 3, 1) := by decide +kernel
theorem dX6_council_75 : decode cX6_council 75 = .ok (.iconst 1, 1) := by decide +kernel
theorem dX6_council_76 : decode cX6_council 76 = .ok (.if_icmp .ne 14, 3) := by decide +kernel
theorem dX6_council_79 : decode cX6_council 79 = .ok (.aload_n 0, 1) := by decide +kernel
theorem dX6_council_80 : decode cX6_council 80 = .ok (.getfield 44, 3) := by decide +kernel
theorem dX6_council_83 : decode cX6_council 83 = .ok (.iload 5, 2) := by decide +kernel
theorem dX6_council_85 : decode cX6_council 85 = .ok (.invokevirtual 205, 3) := by decide +kernel
theorem dX6_council_88 : decode cX6_council 88 = .ok (.i2l, 1) := by decide +kernel
theorem dX6_council_89 : decode cX6_council 89 = .ok (.lreturn, 1) := by decide +kernel
theorem dX6_council_90 : decode cX6_council 90 = .ok (.aload_n 0, 1) := by decide +kernel
theorem dX6_council_91 : decode cX6_council 91 = .ok (.getfield 44, 3) := by decide +kernel
theorem dX6_council_94 : decode cX6_council 94 = .ok (.iload 5, 2) := by decide +kernel
theorem dX6_council_96 : decode cX6_council 96 = .ok (.invokevirtual 209, 3) := by decide +kernel
theorem dX6_council_99 : decode cX6_council 99 = .ok (.lstore 6, 2) := by decide +kernel
theorem dX6_council_101 : decode cX6_council 101 = .ok (.aload_n 0, 1) := by decide +kernel
theorem dX6_council_102 : decode cX6_council 102 = .ok (.getfield 44, 3) := by decide +kernel
theorem dX6_council_105 : decode cX6_council 105 = .ok (.iload 5, 2) := by decide +kernel
theorem dX6_council_107 : decode cX6_council 107 = .ok (.invokevirtual 213, 3) := by decide +kernel
theorem dX6_council_110 : decode cX6_council 110 = .ok (.lstore 8, 2) := by decide +kernel
theorem dX6_council_112 : decode cX6_council 112 = .ok (.lload 6, 2) := by decide +kernel
theorem dX6_council_114 : decode cX6_council 114 = .ok (.ldc2_w 58, 3) := by decide +kernel
theorem dX6_council_117 : decode cX6_council 117 = .ok (.lcmp, 1) := by decide +kernel
theorem dX6_council_118 : decode cX6_council 118 = .ok (.ifCond .eq 12, 3) := by decide +kernel
theorem dX6_council_121 : decode cX6_council 121 = .ok (.lload 8, 2) := by decide +kernel
theorem dX6_council_123 : decode cX6_council 123 = .ok (.ldc2_w 58, 3) := by decide +kernel
theorem dX6_council_126 : decode cX6_council 126 = .ok (.lcmp, 1) := by decide +kernel
theorem dX6_council_127 : decode cX6_council 127 = .ok (.ifCond .ne 7, 3) := by decide +kernel
theorem dX6_council_130 : decode cX6_council 130 = .ok (.ldc2_w 58, 3) := by decide +kernel
theorem dX6_council_133 : decode cX6_council 133 = .ok (.lreturn, 1) := by decide +kernel
theorem dX6_council_134 : decode cX6_council 134 = .ok (.iload_n 3, 1) := by decide +kernel
theorem dX6_council_135 : decode cX6_council 135 = .ok (.iconst 2, 1) := by decide +kernel
theorem dX6_council_136 : decode cX6_council 136 = .ok (.if_icmp .ne 6, 3) := by decide +kernel
theorem dX6_council_139 : decode cX6_council 139 = .ok (.lload 6, 2) := by decide +kernel
theorem dX6_council_141 : decode cX6_council 141 = .ok (.lreturn, 1) := by decide +kernel
theorem dX6_council_142 : decode cX6_council 142 = .ok (.iload_n 3, 1) := by decide +kernel
theorem dX6_council_143 : decode cX6_council 143 = .ok (.iconst 3, 1) := by decide +kernel
theorem dX6_council_144 : decode cX6_council 144 = .ok (.if_icmp .ne 8, 3) := by decide +kernel
theorem dX6_council_147 : decode cX6_council 147 = .ok (.lload 8, 2) := by decide +kernel
theorem dX6_council_149 : decode cX6_council 149 = .ok (.goto 15, 3) := by decide +kernel
theorem dX6_council_152 : decode cX6_council 152 = .ok (.aload_n 0, 1) := by decide +kernel
theorem dX6_council_153 : decode cX6_council 153 = .ok (.getfield 44, 3) := by decide +kernel
theorem dX6_council_156 : decode cX6_council 156 = .ok (.lload 6, 2) := by decide +kernel
theorem dX6_council_158 : decode cX6_council 158 = .ok (.lload 8, 2) := by decide +kernel
theorem dX6_council_160 : decode cX6_council 160 = .ok (.invokevirtual 216, 3) := by decide +kernel
theorem dX6_council_163 : decode cX6_council 163 = .ok (.i2l, 1) := by decide +kernel
theorem dX6_council_164 : decode cX6_council 164 = .ok (.lreturn, 1) := by decide +kernel
theorem dX6_meet_0 : decode cX6_meet 0 = .ok (.aload_n 0, 1) := by decide +kernel
theorem dX6_meet_1 : decode cX6_meet 1 = .ok (.iload_n 1, 1) := by decide +kernel
theorem dX6_meet_2 : decode cX6_meet 2 = .ok (.invokevirtual 64, 3) := by decide +kernel
theorem dX6_meet_5 : decode cX6_meet 5 = .ok (.astore_n 3, 1) := by decide +kernel
theorem dX6_meet_6 : decode cX6_meet 6 = .ok (.aload_n 3, 1) := by decide +kernel
theorem dX6_meet_7 : decode cX6_meet 7 = .ok (.ifnull 25, 3) := by decide +kernel
theorem dX6_meet_10 : decode cX6_meet 10 = .ok (.aload_n 3, 1) := by decide +kernel
theorem dX6_meet_11 : decode cX6_meet 11 = .ok (.getfield 92, 3) := by decide +kernel
theorem dX6_meet_14 : decode cX6_meet 14 = .ok (.ifCond .eq 18, 3) := by decide +kernel
theorem dX6_meet_17 : decode cX6_meet 17 = .ok (.aload_n 3, 1) := by decide +kernel
theorem dX6_meet_18 : decode cX6_meet 18 = .ok (.getfield 92, 3) := by decide +kernel
theorem dX6_meet_21 : decode cX6_meet 21 = .ok (.iconst 1, 1) := by decide +kernel
theorem dX6_meet_22 : decode cX6_meet 22 = .ok (.if_icmp .eq 10, 3) := by decide +kernel
theorem dX6_meet_25 : decode cX6_meet 25 = .ok (.aload_n 3, 1) := by decide +kernel
theorem dX6_meet_26 : decode cX6_meet 26 = .ok (.getfield 105, 3) := by decide +kernel
theorem dX6_meet_29 : decode cX6_meet 29 = .ok (.ifCond .eq 7, 3) := by decide +kernel
theorem dX6_meet_32 : decode cX6_meet 32 = .ok (.ldc2_w 58, 3) := by decide +kernel
theorem dX6_meet_35 : decode cX6_meet 35 = .ok (.lreturn, 1) := by decide +kernel
theorem dX6_meet_36 : decode cX6_meet 36 = .ok (.aload_n 0, 1) := by decide +kernel
theorem dX6_meet_37 : decode cX6_meet 37 = .ok (.aload_n 3, 1) := by decide +kernel
theorem dX6_meet_38 : decode cX6_meet 38 = .ok (.invokevirtual 194, 3) := by decide +kernel
theorem dX6_meet_41 : decode cX6_meet 41 = .ok (.iload_n 2, 1) := by decide +kernel
theorem dX6_meet_42 : decode cX6_meet 42 = .ok (.ifCond .lt 14, 3) := by decide +kernel
theorem dX6_meet_45 : decode cX6_meet 45 = .ok (.iload_n 2, 1) := by decide +kernel
theorem dX6_meet_46 : decode cX6_meet 46 = .ok (.aload_n 0, 1) := by decide +kernel
theorem dX6_meet_47 : decode cX6_meet 47 = .ok (.getfield 44, 3) := by decide +kernel
theorem dX6_meet_50 : decode cX6_meet 50 = .ok (.getfield 202, 3) := by decide +kernel
theorem dX6_meet_53 : decode cX6_meet 53 = .ok (.if_icmp .lt 7, 3) := by decide +kernel
theorem dX6_meet_56 : decode cX6_meet 56 = .ok (.ldc2_w 58, 3) := by decide +kernel
theorem dX6_meet_59 : decode cX6_meet 59 = .ok (.lreturn, 1) := by decide +kernel
theorem dX6_meet_60 : decode cX6_meet 60 = .ok (.aload_n 0, 1) := by decide +kernel
theorem dX6_meet_61 : decode cX6_meet 61 = .ok (.getfield 44, 3) := by decide +kernel
theorem dX6_meet_64 : decode cX6_meet 64 = .ok (.aload_n 0, 1) := by decide +kernel
theorem dX6_meet_65 : decode cX6_meet 65 = .ok (.getfield 44, 3) := by decide +kernel
theorem dX6_meet_68 : decode cX6_meet 68 = .ok (.getfield 202, 3) := by decide +kernel
theorem dX6_meet_71 : decode cX6_meet 71 = .ok (.iload_n 2, 1) := by decide +kernel
theorem dX6_meet_72 : decode cX6_meet 72 = .ok (.isub, 1) := by decide +kernel
theorem dX6_meet_73 : decode cX6_meet 73 = .ok (.invokevirtual 209, 3) := by decide +kernel
theorem dX6_meet_76 : decode cX6_meet 76 = .ok (.lstore 4, 2) := by decide +kernel
theorem dX6_meet_78 : decode cX6_meet 78 = .ok (.aload_n 0, 1) := by decide +kernel
theorem dX6_meet_79 : decode cX6_meet 79 = .ok (.getfield 44, 3) := by decide +kernel
theorem dX6_meet_82 : decode cX6_meet 82 = .ok (.aload_n 0, 1) := by decide +kernel
theorem dX6_meet_83 : decode cX6_meet 83 = .ok (.getfield 44, 3) := by decide +kernel
theorem dX6_meet_86 : decode cX6_meet 86 = .ok (.getfield 202, 3) := by decide +kernel
theorem dX6_meet_89 : decode cX6_meet 89 = .ok (.iload_n 2, 1) := by decide +kernel
theorem dX6_meet_90 : decode cX6_meet 90 = .ok (.isub, 1) := by decide +kernel
theorem dX6_meet_91 : decode cX6_meet 91 = .ok (.invokevirtual 213, 3) := by decide +kernel
theorem dX6_meet_94 : decode cX6_meet 94 = .ok (.lstore 6, 2) := by decide +kernel
theorem dX6_meet_96 : decode cX6_meet 96 = .ok (.lload 4, 2) := by decide +kernel
theorem dX6_meet_98 : decode cX6_meet 98 = .ok (.ldc2_w 58, 3) := by decide +kernel
theorem dX6_meet_101 : decode cX6_meet 101 = .ok (.lcmp, 1) := by decide +kernel
theorem dX6_meet_102 : decode cX6_meet 102 = .ok (.ifCond .eq 12, 3) := by decide +kernel
theorem dX6_meet_105 : decode cX6_meet 105 = .ok (.lload 6, 2) := by decide +kernel
theorem dX6_meet_107 : decode cX6_meet 107 = .ok (.ldc2_w 58, 3) := by decide +kernel
theorem dX6_meet_110 : decode cX6_meet 110 = .ok (.lcmp, 1) := by decide +kernel
theorem dX6_meet_111 : decode cX6_meet 111 = .ok (.ifCond .ne 7, 3) := by decide +kernel
theorem dX6_meet_114 : decode cX6_meet 114 = .ok (.ldc2_w 58, 3) := by decide +kernel
theorem dX6_meet_117 : decode cX6_meet 117 = .ok (.lreturn, 1) := by decide +kernel
theorem dX6_meet_118 : decode cX6_meet 118 = .ok (.aload_n 0, 1) := by decide +kernel
theorem dX6_meet_119 : decode cX6_meet 119 = .ok (.getfield 44, 3) := by decide +kernel
theorem dX6_meet_122 : decode cX6_meet 122 = .ok (.lload 4, 2) := by decide +kernel
theorem dX6_meet_124 : decode cX6_meet 124 = .ok (.lload 6, 2) := by decide +kernel
theorem dX6_meet_126 : decode cX6_meet 126 = .ok (.invokevirtual 216, 3) := by decide +kernel
theorem dX6_meet_129 : decode cX6_meet 129 = .ok (.istore 8, 2) := by decide +kernel
theorem dX6_meet_131 : decode cX6_meet 131 = .ok (.aload_n 0, 1) := by decide +kernel
theorem dX6_meet_132 : decode cX6_meet 132 = .ok (.iload 8, 2) := by decide +kernel
theorem dX6_meet_134 : decode cX6_meet 134 = .ok (.invokevirtual 220, 3) := by decide +kernel
theorem dX6_meet_137 : decode cX6_meet 137 = .ok (.aload_n 3, 1) := by decide +kernel
theorem dX6_meet_138 : decode cX6_meet 138 = .ok (.invokevirtual 224, 3) := by decide +kernel
theorem dX6_meet_141 : decode cX6_meet 141 = .ok (.aload_n 3, 1) := by decide +kernel
theorem dX6_meet_142 : decode cX6_meet 142 = .ok (.getfield 92, 3) := by decide +kernel
theorem dX6_meet_145 : decode cX6_meet 145 = .ok (.iconst 3, 1) := by decide +kernel
theorem dX6_meet_146 : decode cX6_meet 146 = .ok (.if_icmp .eq 22, 3) := by decide +kernel
theorem dX6_meet_149 : decode cX6_meet 149 = .ok (.aload_n 3, 1) := by decide +kernel
theorem dX6_meet_150 : decode cX6_meet 150 = .ok (.getfield 227, 3) := by decide +kernel
theorem dX6_meet_153 : decode cX6_meet 153 = .ok (.lload 4, 2) := by decide +kernel
theorem dX6_meet_155 : decode cX6_meet 155 = .ok (.lload 6, 2) := by decide +kernel
theorem dX6_meet_157 : decode cX6_meet 157 = .ok (.aload_n 3, 1) := by decide +kernel
theorem dX6_meet_158 : decode cX6_meet 158 = .ok (.aload_n 0, 1) := by decide +kernel
theorem dX6_meet_159 : decode cX6_meet 159 = .ok (.getfield 7, 3) := by decide +kernel
theorem dX6_meet_162 : decode cX6_meet 162 = .ok (.invokevirtual 109, 3) := by decide +kernel
theorem dX6_meet_165 : decode cX6_meet 165 = .ok (.invokevirtual 231, 3) := by decide +kernel
theorem dX6_meet_168 : decode cX6_meet 168 = .ok (.iload 8, 2) := by decide +kernel
theorem dX6_meet_170 : decode cX6_meet 170 = .ok (.i2l, 1) := by decide +kernel
theorem dX6_meet_171 : decode cX6_meet 171 = .ok (.lreturn, 1) := by decide +kernel
theorem dX6_lead_0 : decode cX6_lead 0 = .ok (.aload_n 0, 1) := by decide +kernel
theorem dX6_lead_1 : decode cX6_lead 1 = .ok (.iload_n 1, 1) := by decide +kernel
theorem dX6_lead_2 : decode cX6_lead 2 = .ok (.invokevirtual 64, 3) := by decide +kernel
theorem dX6_lead_5 : decode cX6_lead 5 = .ok (.astore_n 3, 1) := by decide +kernel
theorem dX6_lead_6 : decode cX6_lead 6 = .ok (.aload_n 3, 1) := by decide +kernel
theorem dX6_lead_7 : decode cX6_lead 7 = .ok (.ifnull 21, 3) := by decide +kernel
theorem dX6_lead_10 : decode cX6_lead 10 = .ok (.iload_n 2, 1) := by decide +kernel
theorem dX6_lead_11 : decode cX6_lead 11 = .ok (.ifCond .lt 17, 3) := by decide +kernel
theorem dX6_lead_14 : decode cX6_lead 14 = .ok (.iload_n 2, 1) := by decide +kernel
theorem dX6_lead_15 : decode cX6_lead 15 = .ok (.sipush 1000, 3) := by decide +kernel
theorem dX6_lead_18 : decode cX6_lead 18 = .ok (.if_icmp .gt 10, 3) := by decide +kernel
theorem dX6_lead_21 : decode cX6_lead 21 = .ok (.aload_n 3, 1) := by decide +kernel
theorem dX6_lead_22 : decode cX6_lead 22 = .ok (.getfield 105, 3) := by decide +kernel
theorem dX6_lead_25 : decode cX6_lead 25 = .ok (.ifCond .eq 7, 3) := by decide +kernel
theorem dX6_lead_28 : decode cX6_lead 28 = .ok (.ldc2_w 58, 3) := by decide +kernel
theorem dX6_lead_31 : decode cX6_lead 31 = .ok (.lreturn, 1) := by decide +kernel
theorem dX6_lead_32 : decode cX6_lead 32 = .ok (.aload_n 3, 1) := by decide +kernel
theorem dX6_lead_33 : decode cX6_lead 33 = .ok (.aload_n 0, 1) := by decide +kernel
theorem dX6_lead_34 : decode cX6_lead 34 = .ok (.getfield 7, 3) := by decide +kernel
theorem dX6_lead_37 : decode cX6_lead 37 = .ok (.invokevirtual 109, 3) := by decide +kernel
theorem dX6_lead_40 : decode cX6_lead 40 = .ok (.lstore 4, 2) := by decide +kernel
theorem dX6_lead_42 : decode cX6_lead 42 = .ok (.lload 4, 2) := by decide +kernel
theorem dX6_lead_44 : decode cX6_lead 44 = .ok (.aload_n 3, 1) := by decide +kernel
theorem dX6_lead_45 : decode cX6_lead 45 = .ok (.getfield 237, 3) := by decide +kernel
theorem dX6_lead_48 : decode cX6_lead 48 = .ok (.lsub, 1) := by decide +kernel
theorem dX6_lead_49 : decode cX6_lead 49 = .ok (.lstore 6, 2) := by decide +kernel
theorem dX6_lead_51 : decode cX6_lead 51 = .ok (.lload 6, 2) := by decide +kernel
theorem dX6_lead_53 : decode cX6_lead 53 = .ok (.iload_n 2, 1) := by decide +kernel
theorem dX6_lead_54 : decode cX6_lead 54 = .ok (.i2l, 1) := by decide +kernel
theorem dX6_lead_55 : decode cX6_lead 55 = .ok (.lmul, 1) := by decide +kernel
theorem dX6_lead_56 : decode cX6_lead 56 = .ok (.ldc2_w 83, 3) := by decide +kernel
theorem dX6_lead_59 : decode cX6_lead 59 = .ok (.invokestatic 240, 3) := by decide +kernel
theorem dX6_lead_62 : decode cX6_lead 62 = .ok (.lstore 8, 2) := by decide +kernel
theorem dX6_lead_64 : decode cX6_lead 64 = .ok (.aload_n 3, 1) := by decide +kernel
theorem dX6_lead_65 : decode cX6_lead 65 = .ok (.aload_n 0, 1) := by decide +kernel
theorem dX6_lead_66 : decode cX6_lead 66 = .ok (.getfield 7, 3) := by decide +kernel
theorem dX6_lead_69 : decode cX6_lead 69 = .ok (.invokevirtual 112, 3) := by decide +kernel
theorem dX6_lead_72 : decode cX6_lead 72 = .ok (.aload_n 3, 1) := by decide +kernel
theorem dX6_lead_73 : decode cX6_lead 73 = .ok (.aload_n 0, 1) := by decide +kernel
theorem dX6_lead_74 : decode cX6_lead 74 = .ok (.getfield 7, 3) := by decide +kernel
theorem dX6_lead_77 : decode cX6_lead 77 = .ok (.invokevirtual 115, 3) := by decide +kernel
theorem dX6_lead_80 : decode cX6_lead 80 = .ok (.ladd, 1) := by decide +kernel
theorem dX6_lead_81 : decode cX6_lead 81 = .ok (.ldc2_w 163, 3) := by decide +kernel
theorem dX6_lead_84 : decode cX6_lead 84 = .ok (.invokestatic 240, 3) := by decide +kernel
theorem dX6_lead_87 : decode cX6_lead 87 = .ok (.lstore 10, 2) := by decide +kernel
theorem dX6_lead_89 : decode cX6_lead 89 = .ok (.lload 10, 2) := by decide +kernel
theorem dX6_lead_91 : decode cX6_lead 91 = .ok (.aload_n 3, 1) := by decide +kernel
theorem dX6_lead_92 : decode cX6_lead 92 = .ok (.getfield 118, 3) := by decide +kernel
theorem dX6_lead_95 : decode cX6_lead 95 = .ok (.lsub, 1) := by decide +kernel
theorem dX6_lead_96 : decode cX6_lead 96 = .ok (.lload 6, 2) := by decide +kernel
theorem dX6_lead_98 : decode cX6_lead 98 = .ok (.lload 8, 2) := by decide +kernel
theorem dX6_lead_100 : decode cX6_lead 100 = .ok (.lsub, 1) := by decide +kernel
theorem dX6_lead_101 : decode cX6_lead 101 = .ok (.invokestatic 244, 3) := by decide +kernel
theorem dX6_lead_104 : decode cX6_lead 104 = .ok (.lload 6, 2) := by decide +kernel
theorem dX6_lead_106 : decode cX6_lead 106 = .ok (.lload 8, 2) := by decide +kernel
theorem dX6_lead_108 : decode cX6_lead 108 = .ok (.ladd, 1) := by decide +kernel
theorem dX6_lead_109 : decode cX6_lead 109 = .ok (.invokestatic 247, 3) := by decide +kernel
theorem dX6_lead_112 : decode cX6_lead 112 = .ok (.lstore 12, 2) := by decide +kernel
theorem dX6_lead_114 : decode cX6_lead 114 = .ok (.aload_n 3, 1) := by decide +kernel
theorem dX6_lead_115 : decode cX6_lead 115 = .ok (.dup, 1) := by decide +kernel
theorem dX6_lead_116 : decode cX6_lead 116 = .ok (.getfield 118, 3) := by decide +kernel
theorem dX6_lead_119 : decode cX6_lead 119 = .ok (.lload 12, 2) := by decide +kernel
theorem dX6_lead_121 : decode cX6_lead 121 = .ok (.ladd, 1) := by decide +kernel
theorem dX6_lead_122 : decode cX6_lead 122 = .ok (.putfield 118, 3) := by decide +kernel
theorem dX6_lead_125 : decode cX6_lead 125 = .ok (.aload_n 3, 1) := by decide +kernel
theorem dX6_lead_126 : decode cX6_lead 126 = .ok (.lload 4, 2) := by decide +kernel
theorem dX6_lead_128 : decode cX6_lead 128 = .ok (.putfield 237, 3) := by decide +kernel
theorem dX6_lead_131 : decode cX6_lead 131 = .ok (.aload_n 3, 1) := by decide +kernel
theorem dX6_lead_132 : decode cX6_lead 132 = .ok (.getfield 118, 3) := by decide +kernel
theorem dX6_lead_135 : decode cX6_lead 135 = .ok (.lreturn, 1) := by decide +kernel
theorem dX6_stamp_0 : decode cX6_stamp 0 = .ok (.aload_n 0, 1) := by decide +kernel
theorem dX6_stamp_1 : decode cX6_stamp 1 = .ok (.iload_n 1, 1) := by decide +kernel
theorem dX6_stamp_2 : decode cX6_stamp 2 = .ok (.invokevirtual 64, 3) := by decide +kernel
theorem dX6_stamp_5 : decode cX6_stamp 5 = .ok (.astore_n 2, 1) := by decide +kernel
theorem dX6_stamp_6 : decode cX6_stamp 6 = .ok (.aload_n 2, 1) := by decide +kernel
theorem dX6_stamp_7 : decode cX6_stamp 7 = .ok (.ifnull 12, 3) := by decide +kernel
theorem dX6_stamp_10 : decode cX6_stamp 10 = .ok (.aload_n 0, 1) := by decide +kernel
theorem dX6_stamp_11 : decode cX6_stamp 11 = .ok (.getfield 38, 3) := by decide +kernel
theorem dX6_stamp_14 : decode cX6_stamp 14 = .ok (.bipush 100, 2) := by decide +kernel
theorem dX6_stamp_16 : decode cX6_stamp 16 = .ok (.if_icmp .lt 7, 3) := by decide +kernel
theorem dX6_stamp_19 : decode cX6_stamp 19 = .ok (.ldc2_w 58, 3) := by decide +kernel
theorem dX6_stamp_22 : decode cX6_stamp 22 = .ok (.lreturn, 1) := by decide +kernel
theorem dX6_stamp_23 : decode cX6_stamp 23 = .ok (.aload_n 0, 1) := by decide +kernel
theorem dX6_stamp_24 : decode cX6_stamp 24 = .ok (.getfield 34, 3) := by decide +kernel
theorem dX6_stamp_27 : decode cX6_stamp 27 = .ok (.aload_n 0, 1) := by decide +kernel
theorem dX6_stamp_28 : decode cX6_stamp 28 = .ok (.getfield 38, 3) := by decide +kernel
theorem dX6_stamp_31 : decode cX6_stamp 31 = .ok (.new 32, 3) := by decide +kernel
theorem dX6_stamp_34 : decode cX6_stamp 34 = .ok (.dup, 1) := by decide +kernel
theorem dX6_stamp_35 : decode cX6_stamp 35 = .ok (.aload_n 2, 1) := by decide +kernel
theorem dX6_stamp_36 : decode cX6_stamp 36 = .ok (.aload_n 0, 1) := by decide +kernel
theorem dX6_stamp_37 : decode cX6_stamp 37 = .ok (.getfield 7, 3) := by decide +kernel
theorem dX6_stamp_40 : decode cX6_stamp 40 = .ok (.invokevirtual 112, 3) := by decide +kernel
theorem dX6_stamp_43 : decode cX6_stamp 43 = .ok (.aload_n 2, 1) := by decide +kernel
theorem dX6_stamp_44 : decode cX6_stamp 44 = .ok (.aload_n 0, 1) := by decide +kernel
theorem dX6_stamp_45 : decode cX6_stamp 45 = .ok (.getfield 7, 3) := by decide +kernel
theorem dX6_stamp_48 : decode cX6_stamp 48 = .ok (.invokevirtual 115, 3) := by decide +kernel
theorem dX6_stamp_51 : decode cX6_stamp 51 = .ok (.iload_n 1, 1) := by decide +kernel
theorem dX6_stamp_52 : decode cX6_stamp 52 = .ok (.aload_n 2, 1) := by decide +kernel
theorem dX6_stamp_53 : decode cX6_stamp 53 = .ok (.aload_n 0, 1) := by decide +kernel
theorem dX6_stamp_54 : decode cX6_stamp 54 = .ok (.getfield 7, 3) := by decide +kernel
theorem dX6_stamp_57 : decode cX6_stamp 57 = .ok (.invokevirtual 121, 3) := by decide +kernel
theorem dX6_stamp_60 : decode cX6_stamp 60 = .ok (.invokespecial 250, 3) := by decide +kernel
theorem dX6_stamp_63 : decode cX6_stamp 63 = .ok (.aastore, 1) := by decide +kernel
theorem dX6_stamp_64 : decode cX6_stamp 64 = .ok (.aload_n 0, 1) := by decide +kernel
theorem dX6_stamp_65 : decode cX6_stamp 65 = .ok (.dup, 1) := by decide +kernel
theorem dX6_stamp_66 : decode cX6_stamp 66 = .ok (.getfield 38, 3) := by decide +kernel
theorem dX6_stamp_69 : decode cX6_stamp 69 = .ok (.iconst 1, 1) := by decide +kernel
theorem dX6_stamp_70 : decode cX6_stamp 70 = .ok (.iadd, 1) := by decide +kernel
theorem dX6_stamp_71 : decode cX6_stamp 71 = .ok (.putfield 38, 3) := by decide +kernel
theorem dX6_stamp_74 : decode cX6_stamp 74 = .ok (.aload_n 0, 1) := by decide +kernel
theorem dX6_stamp_75 : decode cX6_stamp 75 = .ok (.getfield 38, 3) := by decide +kernel
theorem dX6_stamp_78 : decode cX6_stamp 78 = .ok (.iconst 1, 1) := by decide +kernel
theorem dX6_stamp_79 : decode cX6_stamp 79 = .ok (.isub, 1) := by decide +kernel
theorem dX6_stamp_80 : decode cX6_stamp 80 = .ok (.i2l, 1) := by decide +kernel
theorem dX6_stamp_81 : decode cX6_stamp 81 = .ok (.lreturn, 1) := by decide +kernel
theorem dX6_given_0 : decode cX6_given 0 = .ok (.aload_n 0, 1) := by decide +kernel
theorem dX6_given_1 : decode cX6_given 1 = .ok (.iload_n 1, 1) := by decide +kernel
theorem dX6_given_2 : decode cX6_given 2 = .ok (.invokevirtual 253, 3) := by decide +kernel
theorem dX6_given_5 : decode cX6_given 5 = .ok (.astore_n 3, 1) := by decide +kernel
theorem dX6_given_6 : decode cX6_given 6 = .ok (.aload_n 3, 1) := by decide +kernel
theorem dX6_given_7 : decode cX6_given 7 = .ok (.ifnonnull 7, 3) := by decide +kernel
theorem dX6_given_10 : decode cX6_given 10 = .ok (.ldc2_w 58, 3) := by decide +kernel
theorem dX6_given_13 : decode cX6_given 13 = .ok (.lreturn, 1) := by decide +kernel
theorem dX6_given_14 : decode cX6_given 14 = .ok (.iload_n 2, 1) := by decide +kernel
theorem dX6_given_15 : decode cX6_given 15 = .ok (.tableswitch 53 0 3 #[29, 34, 39, 45], 29) := by decide +kernel
theorem dX6_given_44 : decode cX6_given 44 = .ok (.aload_n 3, 1) := by decide +kernel
theorem dX6_given_45 : decode cX6_given 45 = .ok (.getfield 257, 3) := by decide +kernel
theorem dX6_given_48 : decode cX6_given 48 = .ok (.lreturn, 1) := by decide +kernel
theorem dX6_given_49 : decode cX6_given 49 = .ok (.aload_n 3, 1) := by decide +kernel
theorem dX6_given_50 : decode cX6_given 50 = .ok (.getfield 258, 3) := by decide +kernel
theorem dX6_given_53 : decode cX6_given 53 = .ok (.lreturn, 1) := by decide +kernel
theorem dX6_given_54 : decode cX6_given 54 = .ok (.aload_n 3, 1) := by decide +kernel
theorem dX6_given_55 : decode cX6_given 55 = .ok (.getfield 259, 3) := by decide +kernel
theorem dX6_given_58 : decode cX6_given 58 = .ok (.i2l, 1) := by decide +kernel
theorem dX6_given_59 : decode cX6_given 59 = .ok (.lreturn, 1) := by decide +kernel
theorem dX6_given_60 : decode cX6_given 60 = .ok (.aload_n 3, 1) := by decide +kernel
theorem dX6_given_61 : decode cX6_given 61 = .ok (.getfield 262, 3) := by decide +kernel
theorem dX6_given_64 : decode cX6_given 64 = .ok (.invokestatic 88, 3) := by decide +kernel
theorem dX6_given_67 : decode cX6_given 67 = .ok (.lreturn, 1) := by decide +kernel
theorem dX6_given_68 : decode cX6_given 68 = .ok (.ldc2_w 58, 3) := by decide +kernel
theorem dX6_given_71 : decode cX6_given 71 = .ok (.lreturn, 1) := by decide +kernel
theorem dX6_ahead_0 : decode cX6_ahead 0 = .ok (.aload_n 0, 1) := by decide +kernel
theorem dX6_ahead_1 : decode cX6_ahead 1 = .ok (.iload_n 1, 1) := by decide +kernel
theorem dX6_ahead_2 : decode cX6_ahead 2 = .ok (.invokevirtual 253, 3) := by decide +kernel
theorem dX6_ahead_5 : decode cX6_ahead 5 = .ok (.astore_n 3, 1) := by decide +kernel
theorem dX6_ahead_6 : decode cX6_ahead 6 = .ok (.aload_n 0, 1) := by decide +kernel
theorem dX6_ahead_7 : decode cX6_ahead 7 = .ok (.iload_n 2, 1) := by decide +kernel
theorem dX6_ahead_8 : decode cX6_ahead 8 = .ok (.invokevirtual 253, 3) := by decide +kernel
theorem dX6_ahead_11 : decode cX6_ahead 11 = .ok (.astore 4, 2) := by decide +kernel
theorem dX6_ahead_13 : decode cX6_ahead 13 = .ok (.aload_n 3, 1) := by decide +kernel
theorem dX6_ahead_14 : decode cX6_ahead 14 = .ok (.ifnull 8, 3) := by decide +kernel
theorem dX6_ahead_17 : decode cX6_ahead 17 = .ok (.aload 4, 2) := by decide +kernel
theorem dX6_ahead_19 : decode cX6_ahead 19 = .ok (.ifnonnull 7, 3) := by decide +kernel
theorem dX6_ahead_22 : decode cX6_ahead 22 = .ok (.ldc2_w 58, 3) := by decide +kernel
theorem dX6_ahead_25 : decode cX6_ahead 25 = .ok (.lreturn, 1) := by decide +kernel
theorem dX6_ahead_26 : decode cX6_ahead 26 = .ok (.aload_n 3, 1) := by decide +kernel
theorem dX6_ahead_27 : decode cX6_ahead 27 = .ok (.getfield 258, 3) := by decide +kernel
theorem dX6_ahead_30 : decode cX6_ahead 30 = .ok (.aload 4, 2) := by decide +kernel
theorem dX6_ahead_32 : decode cX6_ahead 32 = .ok (.getfield 257, 3) := by decide +kernel
theorem dX6_ahead_35 : decode cX6_ahead 35 = .ok (.lcmp, 1) := by decide +kernel
theorem dX6_ahead_36 : decode cX6_ahead 36 = .ok (.ifCond .ge 5, 3) := by decide +kernel
theorem dX6_ahead_39 : decode cX6_ahead 39 = .ok (.lconst 1, 1) := by decide +kernel
theorem dX6_ahead_40 : decode cX6_ahead 40 = .ok (.lreturn, 1) := by decide +kernel
theorem dX6_ahead_41 : decode cX6_ahead 41 = .ok (.aload 4, 2) := by decide +kernel
theorem dX6_ahead_43 : decode cX6_ahead 43 = .ok (.getfield 258, 3) := by decide +kernel
theorem dX6_ahead_46 : decode cX6_ahead 46 = .ok (.aload_n 3, 1) := by decide +kernel
theorem dX6_ahead_47 : decode cX6_ahead 47 = .ok (.getfield 257, 3) := by decide +kernel
theorem dX6_ahead_50 : decode cX6_ahead 50 = .ok (.lcmp, 1) := by decide +kernel
theorem dX6_ahead_51 : decode cX6_ahead 51 = .ok (.ifCond .ge 9, 3) := by decide +kernel
theorem dX6_ahead_54 : decode cX6_ahead 54 = .ok (.ldc2_w 265, 3) := by decide +kernel
theorem dX6_ahead_57 : decode cX6_ahead 57 = .ok (.goto 4, 3) := by decide +kernel
theorem dX6_ahead_60 : decode cX6_ahead 60 = .ok (.lconst 0, 1) := by decide +kernel
theorem dX6_ahead_61 : decode cX6_ahead 61 = .ok (.lreturn, 1) := by decide +kernel
theorem dX6_wait_0 : decode cX6_wait 0 = .ok (.aload_n 0, 1) := by decide +kernel
theorem dX6_wait_1 : decode cX6_wait 1 = .ok (.iload_n 1, 1) := by decide +kernel
theorem dX6_wait_2 : decode cX6_wait 2 = .ok (.invokevirtual 64, 3) := by decide +kernel
theorem dX6_wait_5 : decode cX6_wait 5 = .ok (.astore_n 2, 1) := by decide +kernel
theorem dX6_wait_6 : decode cX6_wait 6 = .ok (.aload_n 2, 1) := by decide +kernel
theorem dX6_wait_7 : decode cX6_wait 7 = .ok (.ifnull 11, 3) := by decide +kernel
theorem dX6_wait_10 : decode cX6_wait 10 = .ok (.aload_n 2, 1) := by decide +kernel
theorem dX6_wait_11 : decode cX6_wait 11 = .ok (.getfield 92, 3) := by decide +kernel
theorem dX6_wait_14 : decode cX6_wait 14 = .ok (.iconst 3, 1) := by decide +kernel
theorem dX6_wait_15 : decode cX6_wait 15 = .ok (.if_icmp .ne 7, 3) := by decide +kernel
theorem dX6_wait_18 : decode cX6_wait 18 = .ok (.ldc2_w 58, 3) := by decide +kernel
theorem dX6_wait_21 : decode cX6_wait 21 = .ok (.lreturn, 1) := by decide +kernel
theorem dX6_wait_22 : decode cX6_wait 22 = .ok (.aload_n 0, 1) := by decide +kernel
theorem dX6_wait_23 : decode cX6_wait 23 = .ok (.getfield 38, 3) := by decide +kernel
theorem dX6_wait_26 : decode cX6_wait 26 = .ok (.ifCond .ne 5, 3) := by decide +kernel
theorem dX6_wait_29 : decode cX6_wait 29 = .ok (.lconst 0, 1) := by decide +kernel
theorem dX6_wait_30 : decode cX6_wait 30 = .ok (.lreturn, 1) := by decide +kernel
theorem dX6_wait_31 : decode cX6_wait 31 = .ok (.aload_n 0, 1) := by decide +kernel
theorem dX6_wait_32 : decode cX6_wait 32 = .ok (.invokevirtual 267, 3) := by decide +kernel
theorem dX6_wait_35 : decode cX6_wait 35 = .ok (.lconst 1, 1) := by decide +kernel
theorem dX6_wait_36 : decode cX6_wait 36 = .ok (.ladd, 1) := by decide +kernel
theorem dX6_wait_37 : decode cX6_wait 37 = .ok (.lstore_n 3, 1) := by decide +kernel
theorem dX6_wait_38 : decode cX6_wait 38 = .ok (.aload_n 2, 1) := by decide +kernel
theorem dX6_wait_39 : decode cX6_wait 39 = .ok (.aload_n 0, 1) := by decide +kernel
theorem dX6_wait_40 : decode cX6_wait 40 = .ok (.getfield 7, 3) := by decide +kernel
theorem dX6_wait_43 : decode cX6_wait 43 = .ok (.invokevirtual 112, 3) := by decide +kernel
theorem dX6_wait_46 : decode cX6_wait 46 = .ok (.lload_n 3, 1) := by decide +kernel
theorem dX6_wait_47 : decode cX6_wait 47 = .ok (.lcmp, 1) := by decide +kernel
theorem dX6_wait_48 : decode cX6_wait 48 = .ok (.ifCond .lt 5, 3) := by decide +kernel
theorem dX6_wait_51 : decode cX6_wait 51 = .ok (.lconst 0, 1) := by decide +kernel
theorem dX6_wait_52 : decode cX6_wait 52 = .ok (.lreturn, 1) := by decide +kernel
theorem dX6_wait_53 : decode cX6_wait 53 = .ok (.aload_n 2, 1) := by decide +kernel
theorem dX6_wait_54 : decode cX6_wait 54 = .ok (.aload_n 0, 1) := by decide +kernel
theorem dX6_wait_55 : decode cX6_wait 55 = .ok (.getfield 7, 3) := by decide +kernel
theorem dX6_wait_58 : decode cX6_wait 58 = .ok (.invokevirtual 109, 3) := by decide +kernel
theorem dX6_wait_61 : decode cX6_wait 61 = .ok (.aload_n 2, 1) := by decide +kernel
theorem dX6_wait_62 : decode cX6_wait 62 = .ok (.getfield 227, 3) := by decide +kernel
theorem dX6_wait_65 : decode cX6_wait 65 = .ok (.getfield 271, 3) := by decide +kernel
theorem dX6_wait_68 : decode cX6_wait 68 = .ok (.lsub, 1) := by decide +kernel
theorem dX6_wait_69 : decode cX6_wait 69 = .ok (.lstore 5, 2) := by decide +kernel
theorem dX6_wait_71 : decode cX6_wait 71 = .ok (.lload_n 3, 1) := by decide +kernel
theorem dX6_wait_72 : decode cX6_wait 72 = .ok (.aload_n 2, 1) := by decide +kernel
theorem dX6_wait_73 : decode cX6_wait 73 = .ok (.getfield 227, 3) := by decide +kernel
theorem dX6_wait_76 : decode cX6_wait 76 = .ok (.getfield 274, 3) := by decide +kernel
theorem dX6_wait_79 : decode cX6_wait 79 = .ok (.lsub, 1) := by decide +kernel
theorem dX6_wait_80 : decode cX6_wait 80 = .ok (.aload_n 2, 1) := by decide +kernel
theorem dX6_wait_81 : decode cX6_wait 81 = .ok (.getfield 85, 3) := by decide +kernel
theorem dX6_wait_84 : decode cX6_wait 84 = .ok (.invokestatic 275, 3) := by decide +kernel
theorem dX6_wait_87 : decode cX6_wait 87 = .ok (.lload 5, 2) := by decide +kernel
theorem dX6_wait_89 : decode cX6_wait 89 = .ok (.lsub, 1) := by decide +kernel
theorem dX6_wait_90 : decode cX6_wait 90 = .ok (.lreturn, 1) := by decide +kernel
theorem dX6_event_0 : decode cX6_event 0 = .ok (.aload_n 0, 1) := by decide +kernel
theorem dX6_event_1 : decode cX6_event 1 = .ok (.iload_n 1, 1) := by decide +kernel
theorem dX6_event_2 : decode cX6_event 2 = .ok (.invokevirtual 253, 3) := by decide +kernel
theorem dX6_event_5 : decode cX6_event 5 = .ok (.astore_n 2, 1) := by decide +kernel
theorem dX6_event_6 : decode cX6_event 6 = .ok (.aload_n 2, 1) := by decide +kernel
theorem dX6_event_7 : decode cX6_event 7 = .ok (.ifnull 15, 3) := by decide +kernel
theorem dX6_event_10 : decode cX6_event 10 = .ok (.aload_n 0, 1) := by decide +kernel
theorem dX6_event_11 : decode cX6_event 11 = .ok (.getfield 51, 3) := by decide +kernel
theorem dX6_event_14 : decode cX6_event 14 = .ok (.getfield 279, 3) := by decide +kernel
theorem dX6_event_17 : decode cX6_event 17 = .ok (.bipush 30, 2) := by decide +kernel
theorem dX6_event_19 : decode cX6_event 19 = .ok (.if_icmp .lt 7, 3) := by decide +kernel
theorem dX6_event_22 : decode cX6_event 22 = .ok (.ldc2_w 58, 3) := by decide +kernel
theorem dX6_event_25 : decode cX6_event 25 = .ok (.lreturn, 1) := by decide +kernel
theorem dX6_event_26 : decode cX6_event 26 = .ok (.aload_n 0, 1) := by decide +kernel
theorem dX6_event_27 : decode cX6_event 27 = .ok (.getfield 51, 3) := by decide +kernel
theorem dX6_event_30 : decode cX6_event 30 = .ok (.aload_n 2, 1) := by decide +kernel
theorem dX6_event_31 : decode cX6_event 31 = .ok (.getfield 257, 3) := by decide +kernel
theorem dX6_event_34 : decode cX6_event 34 = .ok (.aload_n 2, 1) := by decide +kernel
theorem dX6_event_35 : decode cX6_event 35 = .ok (.getfield 258, 3) := by decide +kernel
theorem dX6_event_38 : decode cX6_event 38 = .ok (.invokevirtual 282, 3) := by decide +kernel
theorem dX6_event_41 : decode cX6_event 41 = .ok (.lreturn, 1) := by decide +kernel
theorem dX6_link_0 : decode cX6_link 0 = .ok (.aload_n 0, 1) := by decide +kernel
theorem dX6_link_1 : decode cX6_link 1 = .ok (.getfield 51, 3) := by decide +kernel
theorem dX6_link_4 : decode cX6_link 4 = .ok (.iload_n 1, 1) := by decide +kernel
theorem dX6_link_5 : decode cX6_link 5 = .ok (.invokevirtual 285, 3) := by decide +kernel
theorem dX6_link_8 : decode cX6_link 8 = .ok (.ifCond .eq 31, 3) := by decide +kernel
theorem dX6_link_11 : decode cX6_link 11 = .ok (.aload_n 0, 1) := by decide +kernel
theorem dX6_link_12 : decode cX6_link 12 = .ok (.getfield 51, 3) := by decide +kernel
theorem dX6_link_15 : decode cX6_link 15 = .ok (.iload_n 2, 1) := by decide +kernel
theorem dX6_link_16 : decode cX6_link 16 = .ok (.invokevirtual 285, 3) := by decide +kernel
theorem dX6_link_19 : decode cX6_link 19 = .ok (.ifCond .eq 20, 3) := by decide +kernel
theorem dX6_link_22 : decode cX6_link 22 = .ok (.iload_n 1, 1) := by decide +kernel
theorem dX6_link_23 : decode cX6_link 23 = .ok (.iload_n 2, 1) := by decide +kernel
theorem dX6_link_24 : decode cX6_link 24 = .ok (.if_icmp .eq 15, 3) := by decide +kernel
theorem dX6_link_27 : decode cX6_link 27 = .ok (.aload_n 0, 1) := by decide +kernel
theorem dX6_link_28 : decode cX6_link 28 = .ok (.getfield 51, 3) := by decide +kernel
theorem dX6_link_31 : decode cX6_link 31 = .ok (.getfield 288, 3) := by decide +kernel
theorem dX6_link_34 : decode cX6_link 34 = .ok (.bipush 60, 2) := by decide +kernel
theorem dX6_link_36 : decode cX6_link 36 = .ok (.if_icmp .lt 7, 3) := by decide +kernel
theorem dX6_link_39 : decode cX6_link 39 = .ok (.ldc2_w 58, 3) := by decide +kernel
theorem dX6_link_42 : decode cX6_link 42 = .ok (.lreturn, 1) := by decide +kernel
theorem dX6_link_43 : decode cX6_link 43 = .ok (.aload_n 0, 1) := by decide +kernel
theorem dX6_link_44 : decode cX6_link 44 = .ok (.getfield 51, 3) := by decide +kernel
theorem dX6_link_47 : decode cX6_link 47 = .ok (.iload_n 1, 1) := by decide +kernel
theorem dX6_link_48 : decode cX6_link 48 = .ok (.iload_n 2, 1) := by decide +kernel
theorem dX6_link_49 : decode cX6_link 49 = .ok (.invokevirtual 291, 3) := by decide +kernel
theorem dX6_link_52 : decode cX6_link 52 = .ok (.lreturn, 1) := by decide +kernel
theorem dX6_mend_0 : decode cX6_mend 0 = .ok (.aload_n 0, 1) := by decide +kernel
theorem dX6_mend_1 : decode cX6_mend 1 = .ok (.getfield 51, 3) := by decide +kernel
theorem dX6_mend_4 : decode cX6_mend 4 = .ok (.invokevirtual 295, 3) := by decide +kernel
theorem dX6_mend_7 : decode cX6_mend 7 = .ok (.aload_n 0, 1) := by decide +kernel
theorem dX6_mend_8 : decode cX6_mend 8 = .ok (.getfield 51, 3) := by decide +kernel
theorem dX6_mend_11 : decode cX6_mend 11 = .ok (.getfield 298, 3) := by decide +kernel
theorem dX6_mend_14 : decode cX6_mend 14 = .ok (.lreturn, 1) := by decide +kernel
theorem dX6_order_0 : decode cX6_order 0 = .ok (.aload_n 0, 1) := by decide +kernel
theorem dX6_order_1 : decode cX6_order 1 = .ok (.getfield 51, 3) := by decide +kernel
theorem dX6_order_4 : decode cX6_order 4 = .ok (.invokevirtual 295, 3) := by decide +kernel
theorem dX6_order_7 : decode cX6_order 7 = .ok (.aload_n 0, 1) := by decide +kernel
theorem dX6_order_8 : decode cX6_order 8 = .ok (.getfield 51, 3) := by decide +kernel
theorem dX6_order_11 : decode cX6_order 11 = .ok (.getfield 298, 3) := by decide +kernel
theorem dX6_order_14 : decode cX6_order 14 = .ok (.lconst 0, 1) := by decide +kernel
theorem dX6_order_15 : decode cX6_order 15 = .ok (.lcmp, 1) := by decide +kernel
theorem dX6_order_16 : decode cX6_order 16 = .ok (.ifCond .lt 14, 3) := by decide +kernel
theorem dX6_order_19 : decode cX6_order 19 = .ok (.aload_n 0, 1) := by decide +kernel
theorem dX6_order_20 : decode cX6_order 20 = .ok (.getfield 51, 3) := by decide +kernel
theorem dX6_order_23 : decode cX6_order 23 = .ok (.iload_n 1, 1) := by decide +kernel
theorem dX6_order_24 : decode cX6_order 24 = .ok (.invokevirtual 285, 3) := by decide +kernel
theorem dX6_order_27 : decode cX6_order 27 = .ok (.ifCond .ne 9, 3) := by decide +kernel
theorem dX6_order_30 : decode cX6_order 30 = .ok (.ldc2_w 58, 3) := by decide +kernel
theorem dX6_order_33 : decode cX6_order 33 = .ok (.goto 13, 3) := by decide +kernel
theorem dX6_order_36 : decode cX6_order 36 = .ok (.aload_n 0, 1) := by decide +kernel
theorem dX6_order_37 : decode cX6_order 37 = .ok (.getfield 51, 3) := by decide +kernel
theorem dX6_order_40 : decode cX6_order 40 = .ok (.getfield 301, 3) := by decide +kernel
theorem dX6_order_43 : decode cX6_order 43 = .ok (.iload_n 1, 1) := by decide +kernel
theorem dX6_order_44 : decode cX6_order 44 = .ok (.iaload, 1) := by decide +kernel
theorem dX6_order_45 : decode cX6_order 45 = .ok (.i2l, 1) := by decide +kernel
theorem dX6_order_46 : decode cX6_order 46 = .ok (.lreturn, 1) := by decide +kernel
theorem dX6_time_0 : decode cX6_time 0 = .ok (.aload_n 0, 1) := by decide +kernel
theorem dX6_time_1 : decode cX6_time 1 = .ok (.getfield 51, 3) := by decide +kernel
theorem dX6_time_4 : decode cX6_time 4 = .ok (.invokevirtual 295, 3) := by decide +kernel
theorem dX6_time_7 : decode cX6_time 7 = .ok (.aload_n 0, 1) := by decide +kernel
theorem dX6_time_8 : decode cX6_time 8 = .ok (.getfield 51, 3) := by decide +kernel
theorem dX6_time_11 : decode cX6_time 11 = .ok (.getfield 298, 3) := by decide +kernel
theorem dX6_time_14 : decode cX6_time 14 = .ok (.lconst 0, 1) := by decide +kernel
theorem dX6_time_15 : decode cX6_time 15 = .ok (.lcmp, 1) := by decide +kernel
theorem dX6_time_16 : decode cX6_time 16 = .ok (.ifCond .lt 14, 3) := by decide +kernel
theorem dX6_time_19 : decode cX6_time 19 = .ok (.aload_n 0, 1) := by decide +kernel
theorem dX6_time_20 : decode cX6_time 20 = .ok (.getfield 51, 3) := by decide +kernel
theorem dX6_time_23 : decode cX6_time 23 = .ok (.iload_n 1, 1) := by decide +kernel
theorem dX6_time_24 : decode cX6_time 24 = .ok (.invokevirtual 285, 3) := by decide +kernel
theorem dX6_time_27 : decode cX6_time 27 = .ok (.ifCond .ne 9, 3) := by decide +kernel
theorem dX6_time_30 : decode cX6_time 30 = .ok (.ldc2_w 58, 3) := by decide +kernel
theorem dX6_time_33 : decode cX6_time 33 = .ok (.goto 20, 3) := by decide +kernel
theorem dX6_time_36 : decode cX6_time 36 = .ok (.aload_n 0, 1) := by decide +kernel
theorem dX6_time_37 : decode cX6_time 37 = .ok (.getfield 51, 3) := by decide +kernel
theorem dX6_time_40 : decode cX6_time 40 = .ok (.getfield 305, 3) := by decide +kernel
theorem dX6_time_43 : decode cX6_time 43 = .ok (.iload_n 1, 1) := by decide +kernel
theorem dX6_time_44 : decode cX6_time 44 = .ok (.laload, 1) := by decide +kernel
theorem dX6_time_45 : decode cX6_time 45 = .ok (.aload_n 0, 1) := by decide +kernel
theorem dX6_time_46 : decode cX6_time 46 = .ok (.getfield 51, 3) := by decide +kernel
theorem dX6_time_49 : decode cX6_time 49 = .ok (.getfield 298, 3) := by decide +kernel
theorem dX6_time_52 : decode cX6_time 52 = .ok (.lsub, 1) := by decide +kernel
theorem dX6_time_53 : decode cX6_time 53 = .ok (.lreturn, 1) := by decide +kernel
theorem dX6_ring_0 : decode cX6_ring 0 = .ok (.aload_n 0, 1) := by decide +kernel
theorem dX6_ring_1 : decode cX6_ring 1 = .ok (.getfield 51, 3) := by decide +kernel
theorem dX6_ring_4 : decode cX6_ring 4 = .ok (.invokevirtual 295, 3) := by decide +kernel
theorem dX6_ring_7 : decode cX6_ring 7 = .ok (.aload_n 0, 1) := by decide +kernel
theorem dX6_ring_8 : decode cX6_ring 8 = .ok (.getfield 51, 3) := by decide +kernel
theorem dX6_ring_11 : decode cX6_ring 11 = .ok (.getfield 309, 3) := by decide +kernel
theorem dX6_ring_14 : decode cX6_ring 14 = .ok (.ifCond .eq 7, 3) := by decide +kernel
theorem dX6_ring_17 : decode cX6_ring 17 = .ok (.iload_n 1, 1) := by decide +kernel
theorem dX6_ring_18 : decode cX6_ring 18 = .ok (.ifCond .ge 7, 3) := by decide +kernel
theorem dX6_ring_21 : decode cX6_ring 21 = .ok (.ldc2_w 58, 3) := by decide +kernel
theorem dX6_ring_24 : decode cX6_ring 24 = .ok (.lreturn, 1) := by decide +kernel
theorem dX6_ring_25 : decode cX6_ring 25 = .ok (.iload_n 1, 1) := by decide +kernel
theorem dX6_ring_26 : decode cX6_ring 26 = .ok (.aload_n 0, 1) := by decide +kernel
theorem dX6_ring_27 : decode cX6_ring 27 = .ok (.getfield 51, 3) := by decide +kernel
theorem dX6_ring_30 : decode cX6_ring 30 = .ok (.getfield 309, 3) := by decide +kernel
theorem dX6_ring_33 : decode cX6_ring 33 = .ok (.if_icmp .ge 16, 3) := by decide +kernel
theorem dX6_ring_36 : decode cX6_ring 36 = .ok (.aload_n 0, 1) := by decide +kernel
theorem dX6_ring_37 : decode cX6_ring 37 = .ok (.getfield 51, 3) := by decide +kernel
theorem dX6_ring_40 : decode cX6_ring 40 = .ok (.getfield 312, 3) := by decide +kernel
theorem dX6_ring_43 : decode cX6_ring 43 = .ok (.iload_n 1, 1) := by decide +kernel
theorem dX6_ring_44 : decode cX6_ring 44 = .ok (.iaload, 1) := by decide +kernel
theorem dX6_ring_45 : decode cX6_ring 45 = .ok (.i2l, 1) := by decide +kernel
theorem dX6_ring_46 : decode cX6_ring 46 = .ok (.goto 6, 3) := by decide +kernel
theorem dX6_ring_49 : decode cX6_ring 49 = .ok (.ldc2_w 265, 3) := by decide +kernel
theorem dX6_ring_52 : decode cX6_ring 52 = .ok (.lreturn, 1) := by decide +kernel
theorem dX6_count_0 : decode cX6_count 0 = .ok (.iload_n 1, 1) := by decide +kernel
theorem dX6_count_1 : decode cX6_count 1 = .ok (.tableswitch 90 0 6 #[43, 49, 55, 61, 67, 76, 85], 43) := by decide +kernel
theorem dX6_count_44 : decode cX6_count 44 = .ok (.aload_n 0, 1) := by decide +kernel
theorem dX6_count_45 : decode cX6_count 45 = .ok (.getfield 19, 3) := by decide +kernel
theorem dX6_count_48 : decode cX6_count 48 = .ok (.i2l, 1) := by decide +kernel
theorem dX6_count_49 : decode cX6_count 49 = .ok (.lreturn, 1) := by decide +kernel
theorem dX6_count_50 : decode cX6_count 50 = .ok (.aload_n 0, 1) := by decide +kernel
theorem dX6_count_51 : decode cX6_count 51 = .ok (.getfield 29, 3) := by decide +kernel
theorem dX6_count_54 : decode cX6_count 54 = .ok (.i2l, 1) := by decide +kernel
theorem dX6_count_55 : decode cX6_count 55 = .ok (.lreturn, 1) := by decide +kernel
theorem dX6_count_56 : decode cX6_count 56 = .ok (.aload_n 0, 1) := by decide +kernel
theorem dX6_count_57 : decode cX6_count 57 = .ok (.invokevirtual 315, 3) := by decide +kernel
theorem dX6_count_60 : decode cX6_count 60 = .ok (.i2l, 1) := by decide +kernel
theorem dX6_count_61 : decode cX6_count 61 = .ok (.lreturn, 1) := by decide +kernel
theorem dX6_count_62 : decode cX6_count 62 = .ok (.aload_n 0, 1) := by decide +kernel
theorem dX6_count_63 : decode cX6_count 63 = .ok (.getfield 38, 3) := by decide +kernel
theorem dX6_count_66 : decode cX6_count 66 = .ok (.i2l, 1) := by decide +kernel
theorem dX6_count_67 : decode cX6_count 67 = .ok (.lreturn, 1) := by decide +kernel
theorem dX6_count_68 : decode cX6_count 68 = .ok (.aload_n 0, 1) := by decide +kernel
theorem dX6_count_69 : decode cX6_count 69 = .ok (.getfield 51, 3) := by decide +kernel
theorem dX6_count_72 : decode cX6_count 72 = .ok (.getfield 279, 3) := by decide +kernel
theorem dX6_count_75 : decode cX6_count 75 = .ok (.i2l, 1) := by decide +kernel
theorem dX6_count_76 : decode cX6_count 76 = .ok (.lreturn, 1) := by decide +kernel
theorem dX6_count_77 : decode cX6_count 77 = .ok (.aload_n 0, 1) := by decide +kernel
theorem dX6_count_78 : decode cX6_count 78 = .ok (.getfield 51, 3) := by decide +kernel
theorem dX6_count_81 : decode cX6_count 81 = .ok (.getfield 288, 3) := by decide +kernel
theorem dX6_count_84 : decode cX6_count 84 = .ok (.i2l, 1) := by decide +kernel
theorem dX6_count_85 : decode cX6_count 85 = .ok (.lreturn, 1) := by decide +kernel
theorem dX6_count_86 : decode cX6_count 86 = .ok (.aload_n 0, 1) := by decide +kernel
theorem dX6_count_87 : decode cX6_count 87 = .ok (.getfield 7, 3) := by decide +kernel
theorem dX6_count_90 : decode cX6_count 90 = .ok (.lreturn, 1) := by decide +kernel
theorem dX6_count_91 : decode cX6_count 91 = .ok (.ldc2_w 58, 3) := by decide +kernel
theorem dX6_count_94 : decode cX6_count 94 = .ok (.lreturn, 1) := by decide +kernel
theorem dX6_findMember_0 : decode cX6_findMember 0 = .ok (.iload_n 1, 1) := by decide +kernel
theorem dX6_findMember_1 : decode cX6_findMember 1 = .ok (.ifCond .lt 11, 3) := by decide +kernel
theorem dX6_findMember_4 : decode cX6_findMember 4 = .ok (.iload_n 1, 1) := by decide +kernel
theorem dX6_findMember_5 : decode cX6_findMember 5 = .ok (.aload_n 0, 1) := by decide +kernel
theorem dX6_findMember_6 : decode cX6_findMember 6 = .ok (.getfield 19, 3) := by decide +kernel
theorem dX6_findMember_9 : decode cX6_findMember 9 = .ok (.if_icmp .lt 7, 3) := by decide +kernel
theorem dX6_findMember_12 : decode cX6_findMember 12 = .ok (.aconst_null, 1) := by decide +kernel
theorem dX6_findMember_13 : decode cX6_findMember 13 = .ok (.goto 9, 3) := by decide +kernel
theorem dX6_findMember_16 : decode cX6_findMember 16 = .ok (.aload_n 0, 1) := by decide +kernel
theorem dX6_findMember_17 : decode cX6_findMember 17 = .ok (.getfield 15, 3) := by decide +kernel
theorem dX6_findMember_20 : decode cX6_findMember 20 = .ok (.iload_n 1, 1) := by decide +kernel
theorem dX6_findMember_21 : decode cX6_findMember 21 = .ok (.aaload, 1) := by decide +kernel
theorem dX6_findMember_22 : decode cX6_findMember 22 = .ok (.areturn, 1) := by decide +kernel
theorem dX6_findLetter_0 : decode cX6_findLetter 0 = .ok (.iload_n 1, 1) := by decide +kernel
theorem dX6_findLetter_1 : decode cX6_findLetter 1 = .ok (.ifCond .lt 11, 3) := by decide +kernel
theorem dX6_findLetter_4 : decode cX6_findLetter 4 = .ok (.iload_n 1, 1) := by decide +kernel
theorem dX6_findLetter_5 : decode cX6_findLetter 5 = .ok (.aload_n 0, 1) := by decide +kernel
theorem dX6_findLetter_6 : decode cX6_findLetter 6 = .ok (.getfield 29, 3) := by decide +kernel
theorem dX6_findLetter_9 : decode cX6_findLetter 9 = .ok (.if_icmp .lt 7, 3) := by decide +kernel
theorem dX6_findLetter_12 : decode cX6_findLetter 12 = .ok (.aconst_null, 1) := by decide +kernel
theorem dX6_findLetter_13 : decode cX6_findLetter 13 = .ok (.goto 9, 3) := by decide +kernel
theorem dX6_findLetter_16 : decode cX6_findLetter 16 = .ok (.aload_n 0, 1) := by decide +kernel
theorem dX6_findLetter_17 : decode cX6_findLetter 17 = .ok (.getfield 25, 3) := by decide +kernel
theorem dX6_findLetter_20 : decode cX6_findLetter 20 = .ok (.iload_n 1, 1) := by decide +kernel
theorem dX6_findLetter_21 : decode cX6_findLetter 21 = .ok (.aaload, 1) := by decide +kernel
theorem dX6_findLetter_22 : decode cX6_findLetter 22 = .ok (.areturn, 1) := by decide +kernel
theorem dX6_findUnderWay_0 : decode cX6_findUnderWay 0 = .ok (.aload_n 0, 1) := by decide +kernel
theorem dX6_findUnderWay_1 : decode cX6_findUnderWay 1 = .ok (.iload_n 1, 1) := by decide +kernel
theorem dX6_findUnderWay_2 : decode cX6_findUnderWay 2 = .ok (.invokevirtual 177, 3) := by decide +kernel
theorem dX6_findUnderWay_5 : decode cX6_findUnderWay 5 = .ok (.astore_n 2, 1) := by decide +kernel
theorem dX6_findUnderWay_6 : decode cX6_findUnderWay 6 = .ok (.aload_n 2, 1) := by decide +kernel
theorem dX6_findUnderWay_7 : decode cX6_findUnderWay 7 = .ok (.ifnull 10, 3) := by decide +kernel
theorem dX6_findUnderWay_10 : decode cX6_findUnderWay 10 = .ok (.aload_n 2, 1) := by decide +kernel
theorem dX6_findUnderWay_11 : decode cX6_findUnderWay 11 = .ok (.invokevirtual 318, 3) := by decide +kernel
theorem dX6_findUnderWay_14 : decode cX6_findUnderWay 14 = .ok (.ifCond .ne 7, 3) := by decide +kernel
theorem dX6_findUnderWay_17 : decode cX6_findUnderWay 17 = .ok (.aconst_null, 1) := by decide +kernel
theorem dX6_findUnderWay_18 : decode cX6_findUnderWay 18 = .ok (.goto 4, 3) := by decide +kernel
theorem dX6_findUnderWay_21 : decode cX6_findUnderWay 21 = .ok (.aload_n 2, 1) := by decide +kernel
theorem dX6_findUnderWay_22 : decode cX6_findUnderWay 22 = .ok (.areturn, 1) := by decide +kernel
theorem dX6_findStamp_0 : decode cX6_findStamp 0 = .ok (.iload_n 1, 1) := by decide +kernel
theorem dX6_findStamp_1 : decode cX6_findStamp 1 = .ok (.ifCond .lt 11, 3) := by decide +kernel
theorem dX6_findStamp_4 : decode cX6_findStamp 4 = .ok (.iload_n 1, 1) := by decide +kernel
theorem dX6_findStamp_5 : decode cX6_findStamp 5 = .ok (.aload_n 0, 1) := by decide +kernel
theorem dX6_findStamp_6 : decode cX6_findStamp 6 = .ok (.getfield 38, 3) := by decide +kernel
theorem dX6_findStamp_9 : decode cX6_findStamp 9 = .ok (.if_icmp .lt 7, 3) := by decide +kernel
theorem dX6_findStamp_12 : decode cX6_findStamp 12 = .ok (.aconst_null, 1) := by decide +kernel
theorem dX6_findStamp_13 : decode cX6_findStamp 13 = .ok (.goto 9, 3) := by decide +kernel
theorem dX6_findStamp_16 : decode cX6_findStamp 16 = .ok (.aload_n 0, 1) := by decide +kernel
theorem dX6_findStamp_17 : decode cX6_findStamp 17 = .ok (.getfield 34, 3) := by decide +kernel
theorem dX6_findStamp_20 : decode cX6_findStamp 20 = .ok (.iload_n 1, 1) := by decide +kernel
theorem dX6_findStamp_21 : decode cX6_findStamp 21 = .ok (.aaload, 1) := by decide +kernel
theorem dX6_findStamp_22 : decode cX6_findStamp 22 = .ok (.areturn, 1) := by decide +kernel
theorem dX6_addLetter_0 : decode cX6_addLetter 0 = .ok (.aload_n 0, 1) := by decide +kernel
theorem dX6_addLetter_1 : decode cX6_addLetter 1 = .ok (.getfield 29, 3) := by decide +kernel
theorem dX6_addLetter_4 : decode cX6_addLetter 4 = .ok (.sipush 200, 3) := by decide +kernel
theorem dX6_addLetter_7 : decode cX6_addLetter 7 = .ok (.if_icmp .lt 7, 3) := by decide +kernel
theorem dX6_addLetter_10 : decode cX6_addLetter 10 = .ok (.ldc2_w 58, 3) := by decide +kernel
theorem dX6_addLetter_13 : decode cX6_addLetter 13 = .ok (.lreturn, 1) := by decide +kernel
theorem dX6_addLetter_14 : decode cX6_addLetter 14 = .ok (.aload_n 0, 1) := by decide +kernel
theorem dX6_addLetter_15 : decode cX6_addLetter 15 = .ok (.getfield 25, 3) := by decide +kernel
theorem dX6_addLetter_18 : decode cX6_addLetter 18 = .ok (.aload_n 0, 1) := by decide +kernel
theorem dX6_addLetter_19 : decode cX6_addLetter 19 = .ok (.getfield 29, 3) := by decide +kernel
theorem dX6_addLetter_22 : decode cX6_addLetter 22 = .ok (.aload_n 1, 1) := by decide +kernel
theorem dX6_addLetter_23 : decode cX6_addLetter 23 = .ok (.aastore, 1) := by decide +kernel
theorem dX6_addLetter_24 : decode cX6_addLetter 24 = .ok (.aload_n 0, 1) := by decide +kernel
theorem dX6_addLetter_25 : decode cX6_addLetter 25 = .ok (.dup, 1) := by decide +kernel
theorem dX6_addLetter_26 : decode cX6_addLetter 26 = .ok (.getfield 29, 3) := by decide +kernel
theorem dX6_addLetter_29 : decode cX6_addLetter 29 = .ok (.iconst 1, 1) := by decide +kernel
theorem dX6_addLetter_30 : decode cX6_addLetter 30 = .ok (.iadd, 1) := by decide +kernel
theorem dX6_addLetter_31 : decode cX6_addLetter 31 = .ok (.putfield 29, 3) := by decide +kernel
theorem dX6_addLetter_34 : decode cX6_addLetter 34 = .ok (.aload_n 0, 1) := by decide +kernel
theorem dX6_addLetter_35 : decode cX6_addLetter 35 = .ok (.getfield 29, 3) := by decide +kernel
theorem dX6_addLetter_38 : decode cX6_addLetter 38 = .ok (.iconst 1, 1) := by decide +kernel
theorem dX6_addLetter_39 : decode cX6_addLetter 39 = .ok (.isub, 1) := by decide +kernel
theorem dX6_addLetter_40 : decode cX6_addLetter 40 = .ok (.i2l, 1) := by decide +kernel
theorem dX6_addLetter_41 : decode cX6_addLetter 41 = .ok (.lreturn, 1) := by decide +kernel
theorem dX6_howManyUnderWay_0 : decode cX6_howManyUnderWay 0 = .ok (.iconst 0, 1) := by decide +kernel
theorem dX6_howManyUnderWay_1 : decode cX6_howManyUnderWay 1 = .ok (.istore_n 1, 1) := by decide +kernel
theorem dX6_howManyUnderWay_2 : decode cX6_howManyUnderWay 2 = .ok (.iconst 0, 1) := by decide +kernel
theorem dX6_howManyUnderWay_3 : decode cX6_howManyUnderWay 3 = .ok (.istore_n 2, 1) := by decide +kernel
theorem dX6_howManyUnderWay_4 : decode cX6_howManyUnderWay 4 = .ok (.iload_n 2, 1) := by decide +kernel
theorem dX6_howManyUnderWay_5 : decode cX6_howManyUnderWay 5 = .ok (.aload_n 0, 1) := by decide +kernel
theorem dX6_howManyUnderWay_6 : decode cX6_howManyUnderWay 6 = .ok (.getfield 29, 3) := by decide +kernel
theorem dX6_howManyUnderWay_9 : decode cX6_howManyUnderWay 9 = .ok (.if_icmp .ge 20, 3) := by decide +kernel
theorem dX6_howManyUnderWay_12 : decode cX6_howManyUnderWay 12 = .ok (.aload_n 0, 1) := by decide +kernel
theorem dX6_howManyUnderWay_13 : decode cX6_howManyUnderWay 13 = .ok (.iload_n 2, 1) := by decide +kernel
theorem dX6_howManyUnderWay_14 : decode cX6_howManyUnderWay 14 = .ok (.invokevirtual 142, 3) := by decide +kernel
theorem dX6_howManyUnderWay_17 : decode cX6_howManyUnderWay 17 = .ok (.ifnull 6, 3) := by decide +kernel
theorem dX6_howManyUnderWay_20 : decode cX6_howManyUnderWay 20 = .ok (.iinc 1 1, 3) := by decide +kernel
theorem dX6_howManyUnderWay_23 : decode cX6_howManyUnderWay 23 = .ok (.iinc 2 1, 3) := by decide +kernel
theorem dX6_howManyUnderWay_26 : decode cX6_howManyUnderWay 26 = .ok (.goto (-22), 3) := by decide +kernel
theorem dX6_howManyUnderWay_29 : decode cX6_howManyUnderWay 29 = .ok (.iload_n 1, 1) := by decide +kernel
theorem dX6_howManyUnderWay_30 : decode cX6_howManyUnderWay 30 = .ok (.ireturn, 1) := by decide +kernel
theorem dX6_gather_0 : decode cX6_gather 0 = .ok (.aload_n 0, 1) := by decide +kernel
theorem dX6_gather_1 : decode cX6_gather 1 = .ok (.getfield 44, 3) := by decide +kernel
theorem dX6_gather_4 : decode cX6_gather 4 = .ok (.invokevirtual 322, 3) := by decide +kernel
theorem dX6_gather_7 : decode cX6_gather 7 = .ok (.aload_n 0, 1) := by decide +kernel
theorem dX6_gather_8 : decode cX6_gather 8 = .ok (.getfield 44, 3) := by decide +kernel
theorem dX6_gather_11 : decode cX6_gather 11 = .ok (.aload_n 1, 1) := by decide +kernel
theorem dX6_gather_12 : decode cX6_gather 12 = .ok (.getfield 180, 3) := by decide +kernel
theorem dX6_gather_15 : decode cX6_gather 15 = .ok (.aload_n 1, 1) := by decide +kernel
theorem dX6_gather_16 : decode cX6_gather 16 = .ok (.aload_n 0, 1) := by decide +kernel
theorem dX6_gather_17 : decode cX6_gather 17 = .ok (.getfield 7, 3) := by decide +kernel
theorem dX6_gather_20 : decode cX6_gather 20 = .ok (.invokevirtual 112, 3) := by decide +kernel
theorem dX6_gather_23 : decode cX6_gather 23 = .ok (.aload_n 1, 1) := by decide +kernel
theorem dX6_gather_24 : decode cX6_gather 24 = .ok (.aload_n 0, 1) := by decide +kernel
theorem dX6_gather_25 : decode cX6_gather 25 = .ok (.getfield 7, 3) := by decide +kernel
theorem dX6_gather_28 : decode cX6_gather 28 = .ok (.invokevirtual 115, 3) := by decide +kernel
theorem dX6_gather_31 : decode cX6_gather 31 = .ok (.invokevirtual 325, 3) := by decide +kernel
theorem dX6_gather_34 : decode cX6_gather 34 = .ok (.iconst 0, 1) := by decide +kernel
theorem dX6_gather_35 : decode cX6_gather 35 = .ok (.istore_n 2, 1) := by decide +kernel
theorem dX6_gather_36 : decode cX6_gather 36 = .ok (.iload_n 2, 1) := by decide +kernel
theorem dX6_gather_37 : decode cX6_gather 37 = .ok (.aload_n 0, 1) := by decide +kernel
theorem dX6_gather_38 : decode cX6_gather 38 = .ok (.getfield 19, 3) := by decide +kernel
theorem dX6_gather_41 : decode cX6_gather 41 = .ok (.if_icmp .ge 43, 3) := by decide +kernel
theorem dX6_gather_44 : decode cX6_gather 44 = .ok (.aload_n 1, 1) := by decide +kernel
theorem dX6_gather_45 : decode cX6_gather 45 = .ok (.iload_n 2, 1) := by decide +kernel
theorem dX6_gather_46 : decode cX6_gather 46 = .ok (.invokevirtual 183, 3) := by decide +kernel
theorem dX6_gather_49 : decode cX6_gather 49 = .ok (.ifCond .eq 29, 3) := by decide +kernel
theorem dX6_gather_52 : decode cX6_gather 52 = .ok (.aload_n 0, 1) := by decide +kernel
theorem dX6_gather_53 : decode cX6_gather 53 = .ok (.getfield 44, 3) := by decide +kernel
theorem dX6_gather_56 : decode cX6_gather 56 = .ok (.iload_n 2, 1) := by decide +kernel
theorem dX6_gather_57 : decode cX6_gather 57 = .ok (.aload_n 1, 1) := by decide +kernel
theorem dX6_gather_58 : decode cX6_gather 58 = .ok (.iload_n 2, 1) := by decide +kernel
theorem dX6_gather_59 : decode cX6_gather 59 = .ok (.aload_n 0, 1) := by decide +kernel
theorem dX6_gather_60 : decode cX6_gather 60 = .ok (.getfield 7, 3) := by decide +kernel
theorem dX6_gather_63 : decode cX6_gather 63 = .ok (.invokevirtual 187, 3) := by decide +kernel
theorem dX6_gather_66 : decode cX6_gather 66 = .ok (.aload_n 1, 1) := by decide +kernel
theorem dX6_gather_67 : decode cX6_gather 67 = .ok (.iload_n 2, 1) := by decide +kernel
theorem dX6_gather_68 : decode cX6_gather 68 = .ok (.aload_n 0, 1) := by decide +kernel
theorem dX6_gather_69 : decode cX6_gather 69 = .ok (.getfield 7, 3) := by decide +kernel
theorem dX6_gather_72 : decode cX6_gather 72 = .ok (.invokevirtual 191, 3) := by decide +kernel
theorem dX6_gather_75 : decode cX6_gather 75 = .ok (.invokevirtual 325, 3) := by decide +kernel
theorem dX6_gather_78 : decode cX6_gather 78 = .ok (.iinc 2 1, 3) := by decide +kernel
theorem dX6_gather_81 : decode cX6_gather 81 = .ok (.goto (-45), 3) := by decide +kernel
theorem dX6_gather_84 : decode cX6_gather 84 = .ok (.return_, 1) := by decide +kernel
theorem dX6_noteMeeting_0 : decode cX6_noteMeeting 0 = .ok (.iconst 0, 1) := by decide +kernel
theorem dX6_noteMeeting_1 : decode cX6_noteMeeting 1 = .ok (.istore_n 2, 1) := by decide +kernel
theorem dX6_noteMeeting_2 : decode cX6_noteMeeting 2 = .ok (.iload_n 2, 1) := by decide +kernel
theorem dX6_noteMeeting_3 : decode cX6_noteMeeting 3 = .ok (.aload_n 0, 1) := by decide +kernel
theorem dX6_noteMeeting_4 : decode cX6_noteMeeting 4 = .ok (.getfield 44, 3) := by decide +kernel
theorem dX6_noteMeeting_7 : decode cX6_noteMeeting 7 = .ok (.getfield 202, 3) := by decide +kernel
theorem dX6_noteMeeting_10 : decode cX6_noteMeeting 10 = .ok (.if_icmp .ge 54, 3) := by decide +kernel
theorem dX6_noteMeeting_13 : decode cX6_noteMeeting 13 = .ok (.aload_n 0, 1) := by decide +kernel
theorem dX6_noteMeeting_14 : decode cX6_noteMeeting 14 = .ok (.aload_n 0, 1) := by decide +kernel
theorem dX6_noteMeeting_15 : decode cX6_noteMeeting 15 = .ok (.getfield 44, 3) := by decide +kernel
theorem dX6_noteMeeting_18 : decode cX6_noteMeeting 18 = .ok (.getfield 329, 3) := by decide +kernel
theorem dX6_noteMeeting_21 : decode cX6_noteMeeting 21 = .ok (.iload_n 2, 1) := by decide +kernel
theorem dX6_noteMeeting_22 : decode cX6_noteMeeting 22 = .ok (.iaload, 1) := by decide +kernel
theorem dX6_noteMeeting_23 : decode cX6_noteMeeting 23 = .ok (.invokevirtual 64, 3) := by decide +kernel
theorem dX6_noteMeeting_26 : decode cX6_noteMeeting 26 = .ok (.astore_n 3, 1) := by decide +kernel
theorem dX6_noteMeeting_27 : decode cX6_noteMeeting 27 = .ok (.aload_n 3, 1) := by decide +kernel
theorem dX6_noteMeeting_28 : decode cX6_noteMeeting 28 = .ok (.ifnull 30, 3) := by decide +kernel
theorem dX6_noteMeeting_31 : decode cX6_noteMeeting 31 = .ok (.aload_n 3, 1) := by decide +kernel
theorem dX6_noteMeeting_32 : decode cX6_noteMeeting 32 = .ok (.dup, 1) := by decide +kernel
theorem dX6_noteMeeting_33 : decode cX6_noteMeeting 33 = .ok (.getfield 128, 3) := by decide +kernel
theorem dX6_noteMeeting_36 : decode cX6_noteMeeting 36 = .ok (.iconst 1, 1) := by decide +kernel
theorem dX6_noteMeeting_37 : decode cX6_noteMeeting 37 = .ok (.iadd, 1) := by decide +kernel
theorem dX6_noteMeeting_38 : decode cX6_noteMeeting 38 = .ok (.putfield 128, 3) := by decide +kernel
theorem dX6_noteMeeting_41 : decode cX6_noteMeeting 41 = .ok (.aload_n 3, 1) := by decide +kernel
theorem dX6_noteMeeting_42 : decode cX6_noteMeeting 42 = .ok (.dup, 1) := by decide +kernel
theorem dX6_noteMeeting_43 : decode cX6_noteMeeting 43 = .ok (.getfield 125, 3) := by decide +kernel
theorem dX6_noteMeeting_46 : decode cX6_noteMeeting 46 = .ok (.iload_n 1, 1) := by decide +kernel
theorem dX6_noteMeeting_47 : decode cX6_noteMeeting 47 = .ok (.aload_n 3, 1) := by decide +kernel
theorem dX6_noteMeeting_48 : decode cX6_noteMeeting 48 = .ok (.getfield 180, 3) := by decide +kernel
theorem dX6_noteMeeting_51 : decode cX6_noteMeeting 51 = .ok (.ishr, 1) := by decide +kernel
theorem dX6_noteMeeting_52 : decode cX6_noteMeeting 52 = .ok (.iconst 1, 1) := by decide +kernel
theorem dX6_noteMeeting_53 : decode cX6_noteMeeting 53 = .ok (.iand, 1) := by decide +kernel
theorem dX6_noteMeeting_54 : decode cX6_noteMeeting 54 = .ok (.iadd, 1) := by decide +kernel
theorem dX6_noteMeeting_55 : decode cX6_noteMeeting 55 = .ok (.putfield 125, 3) := by decide +kernel
theorem dX6_noteMeeting_58 : decode cX6_noteMeeting 58 = .ok (.iinc 2 1, 3) := by decide +kernel
theorem dX6_noteMeeting_61 : decode cX6_noteMeeting 61 = .ok (.goto (-59), 3) := by decide +kernel
theorem dX6_noteMeeting_64 : decode cX6_noteMeeting 64 = .ok (.return_, 1) := by decide +kernel
theorem dX6_latestStamped_0 : decode cX6_latestStamped 0 = .ok (.ldc2_w 58, 3) := by decide +kernel
theorem dX6_latestStamped_3 : decode cX6_latestStamped 3 = .ok (.lstore_n 1, 1) := by decide +kernel
theorem dX6_latestStamped_4 : decode cX6_latestStamped 4 = .ok (.iconst 0, 1) := by decide +kernel
theorem dX6_latestStamped_5 : decode cX6_latestStamped 5 = .ok (.istore_n 3, 1) := by decide +kernel
theorem dX6_latestStamped_6 : decode cX6_latestStamped 6 = .ok (.iload_n 3, 1) := by decide +kernel
theorem dX6_latestStamped_7 : decode cX6_latestStamped 7 = .ok (.aload_n 0, 1) := by decide +kernel
theorem dX6_latestStamped_8 : decode cX6_latestStamped 8 = .ok (.getfield 38, 3) := by decide +kernel
theorem dX6_latestStamped_11 : decode cX6_latestStamped 11 = .ok (.if_icmp .ge 31, 3) := by decide +kernel
theorem dX6_latestStamped_14 : decode cX6_latestStamped 14 = .ok (.aload_n 0, 1) := by decide +kernel
theorem dX6_latestStamped_15 : decode cX6_latestStamped 15 = .ok (.iload_n 3, 1) := by decide +kernel
theorem dX6_latestStamped_16 : decode cX6_latestStamped 16 = .ok (.invokevirtual 253, 3) := by decide +kernel
theorem dX6_latestStamped_19 : decode cX6_latestStamped 19 = .ok (.astore 4, 2) := by decide +kernel
theorem dX6_latestStamped_21 : decode cX6_latestStamped 21 = .ok (.aload 4, 2) := by decide +kernel
theorem dX6_latestStamped_23 : decode cX6_latestStamped 23 = .ok (.ifnull 13, 3) := by decide +kernel
theorem dX6_latestStamped_26 : decode cX6_latestStamped 26 = .ok (.lload_n 1, 1) := by decide +kernel
theorem dX6_latestStamped_27 : decode cX6_latestStamped 27 = .ok (.aload 4, 2) := by decide +kernel
theorem dX6_latestStamped_29 : decode cX6_latestStamped 29 = .ok (.getfield 258, 3) := by decide +kernel
theorem dX6_latestStamped_32 : decode cX6_latestStamped 32 = .ok (.invokestatic 244, 3) := by decide +kernel
theorem dX6_latestStamped_35 : decode cX6_latestStamped 35 = .ok (.lstore_n 1, 1) := by decide +kernel
theorem dX6_latestStamped_36 : decode cX6_latestStamped 36 = .ok (.iinc 3 1, 3) := by decide +kernel
theorem dX6_latestStamped_39 : decode cX6_latestStamped 39 = .ok (.goto (-33), 3) := by decide +kernel
theorem dX6_latestStamped_42 : decode cX6_latestStamped 42 = .ok (.lload_n 1, 1) := by decide +kernel
theorem dX6_latestStamped_43 : decode cX6_latestStamped 43 = .ok (.lreturn, 1) := by decide +kernel
theorem dX6_asBit_0 : decode cX6_asBit 0 = .ok (.iload_n 0, 1) := by decide +kernel
theorem dX6_asBit_1 : decode cX6_asBit 1 = .ok (.ifCond .eq 7, 3) := by decide +kernel
theorem dX6_asBit_4 : decode cX6_asBit 4 = .ok (.lconst 1, 1) := by decide +kernel
theorem dX6_asBit_5 : decode cX6_asBit 5 = .ok (.goto 4, 3) := by decide +kernel
theorem dX6_asBit_8 : decode cX6_asBit 8 = .ok (.lconst 0, 1) := by decide +kernel
theorem dX6_asBit_9 : decode cX6_asBit 9 = .ok (.lreturn, 1) := by decide +kernel
theorem dX6_floorOf_0 : decode cX6_floorOf 0 = .ok (.lload_n 2, 1) := by decide +kernel
theorem dX6_floorOf_1 : decode cX6_floorOf 1 = .ok (.lconst 1, 1) := by decide +kernel
theorem dX6_floorOf_2 : decode cX6_floorOf 2 = .ok (.lcmp, 1) := by decide +kernel
theorem dX6_floorOf_3 : decode cX6_floorOf 3 = .ok (.ifCond .ge 7, 3) := by decide +kernel
theorem dX6_floorOf_6 : decode cX6_floorOf 6 = .ok (.lconst 0, 1) := by decide +kernel
theorem dX6_floorOf_7 : decode cX6_floorOf 7 = .ok (.goto 8, 3) := by decide +kernel
theorem dX6_floorOf_10 : decode cX6_floorOf 10 = .ok (.lload_n 0, 1) := by decide +kernel
theorem dX6_floorOf_11 : decode cX6_floorOf 11 = .ok (.lload_n 2, 1) := by decide +kernel
theorem dX6_floorOf_12 : decode cX6_floorOf 12 = .ok (.invokestatic 332, 3) := by decide +kernel
theorem dX6_floorOf_15 : decode cX6_floorOf 15 = .ok (.lreturn, 1) := by decide +kernel
theorem dX6_ceilOf_0 : decode cX6_ceilOf 0 = .ok (.lload_n 2, 1) := by decide +kernel
theorem dX6_ceilOf_1 : decode cX6_ceilOf 1 = .ok (.lconst 1, 1) := by decide +kernel
theorem dX6_ceilOf_2 : decode cX6_ceilOf 2 = .ok (.lcmp, 1) := by decide +kernel
theorem dX6_ceilOf_3 : decode cX6_ceilOf 3 = .ok (.ifCond .ge 7, 3) := by decide +kernel
theorem dX6_ceilOf_6 : decode cX6_ceilOf 6 = .ok (.lconst 0, 1) := by decide +kernel
theorem dX6_ceilOf_7 : decode cX6_ceilOf 7 = .ok (.goto 10, 3) := by decide +kernel
theorem dX6_ceilOf_10 : decode cX6_ceilOf 10 = .ok (.lload_n 0, 1) := by decide +kernel
theorem dX6_ceilOf_11 : decode cX6_ceilOf 11 = .ok (.lneg, 1) := by decide +kernel
theorem dX6_ceilOf_12 : decode cX6_ceilOf 12 = .ok (.lload_n 2, 1) := by decide +kernel
theorem dX6_ceilOf_13 : decode cX6_ceilOf 13 = .ok (.invokestatic 332, 3) := by decide +kernel
theorem dX6_ceilOf_16 : decode cX6_ceilOf 16 = .ok (.lneg, 1) := by decide +kernel
theorem dX6_ceilOf_17 : decode cX6_ceilOf 17 = .ok (.lreturn, 1) := by decide +kernel
theorem dX6_atLeast_0 : decode cX6_atLeast 0 = .ok (.lload_n 0, 1) := by decide +kernel
theorem dX6_atLeast_1 : decode cX6_atLeast 1 = .ok (.lconst 1, 1) := by decide +kernel
theorem dX6_atLeast_2 : decode cX6_atLeast 2 = .ok (.lsub, 1) := by decide +kernel
theorem dX6_atLeast_3 : decode cX6_atLeast 3 = .ok (.ldc2_w 83, 3) := by decide +kernel
theorem dX6_atLeast_6 : decode cX6_atLeast 6 = .ok (.lmul, 1) := by decide +kernel
theorem dX6_atLeast_7 : decode cX6_atLeast 7 = .ok (.sipush 1000, 3) := by decide +kernel
theorem dX6_atLeast_10 : decode cX6_atLeast 10 = .ok (.iload_n 2, 1) := by decide +kernel
theorem dX6_atLeast_11 : decode cX6_atLeast 11 = .ok (.iadd, 1) := by decide +kernel
theorem dX6_atLeast_12 : decode cX6_atLeast 12 = .ok (.i2l, 1) := by decide +kernel
theorem dX6_atLeast_13 : decode cX6_atLeast 13 = .ok (.invokestatic 240, 3) := by decide +kernel
theorem dX6_atLeast_16 : decode cX6_atLeast 16 = .ok (.lconst 1, 1) := by decide +kernel
theorem dX6_atLeast_17 : decode cX6_atLeast 17 = .ok (.ladd, 1) := by decide +kernel
theorem dX6_atLeast_18 : decode cX6_atLeast 18 = .ok (.lreturn, 1) := by decide +kernel
theorem dX6_atMost_0 : decode cX6_atMost 0 = .ok (.lload_n 0, 1) := by decide +kernel
theorem dX6_atMost_1 : decode cX6_atMost 1 = .ok (.lconst 1, 1) := by decide +kernel
theorem dX6_atMost_2 : decode cX6_atMost 2 = .ok (.ladd, 1) := by decide +kernel
theorem dX6_atMost_3 : decode cX6_atMost 3 = .ok (.ldc2_w 83, 3) := by decide +kernel
theorem dX6_atMost_6 : decode cX6_atMost 6 = .ok (.lmul, 1) := by decide +kernel
theorem dX6_atMost_7 : decode cX6_atMost 7 = .ok (.sipush 1000, 3) := by decide +kernel
theorem dX6_atMost_10 : decode cX6_atMost 10 = .ok (.iload_n 2, 1) := by decide +kernel
theorem dX6_atMost_11 : decode cX6_atMost 11 = .ok (.isub, 1) := by decide +kernel
theorem dX6_atMost_12 : decode cX6_atMost 12 = .ok (.i2l, 1) := by decide +kernel
theorem dX6_atMost_13 : decode cX6_atMost 13 = .ok (.invokestatic 335, 3) := by decide +kernel
theorem dX6_atMost_16 : decode cX6_atMost 16 = .ok (.lconst 1, 1) := by decide +kernel
theorem dX6_atMost_17 : decode cX6_atMost 17 = .ok (.lsub, 1) := by decide +kernel
theorem dX6_atMost_18 : decode cX6_atMost 18 = .ok (.lreturn, 1) := by decide +kernel
theorem dX6_countFor_0 : decode cX6_countFor 0 = .ok (.lload_n 0, 1) := by decide +kernel
theorem dX6_countFor_1 : decode cX6_countFor 1 = .ok (.lload_n 0, 1) := by decide +kernel
theorem dX6_countFor_2 : decode cX6_countFor 2 = .ok (.lconst 1, 1) := by decide +kernel
theorem dX6_countFor_3 : decode cX6_countFor 3 = .ok (.lsub, 1) := by decide +kernel
theorem dX6_countFor_4 : decode cX6_countFor 4 = .ok (.iload_n 2, 1) := by decide +kernel
theorem dX6_countFor_5 : decode cX6_countFor 5 = .ok (.i2l, 1) := by decide +kernel
theorem dX6_countFor_6 : decode cX6_countFor 6 = .ok (.lmul, 1) := by decide +kernel
theorem dX6_countFor_7 : decode cX6_countFor 7 = .ok (.ldc2_w 83, 3) := by decide +kernel
theorem dX6_countFor_10 : decode cX6_countFor 10 = .ok (.invokestatic 335, 3) := by decide +kernel
theorem dX6_countFor_13 : decode cX6_countFor 13 = .ok (.ladd, 1) := by decide +kernel
theorem dX6_countFor_14 : decode cX6_countFor 14 = .ok (.lreturn, 1) := by decide +kernel
end
section
theorem dX7_init_0 : decode cX7_init 0 = .ok (.aload_n 0, 1) := by decide +kernel
theorem dX7_init_1 : decode cX7_init 1 = .ok (.invokespecial 1, 3) := by decide +kernel
theorem dX7_init_4 : decode cX7_init 4 = .ok (.aload_n 0, 1) := by decide +kernel
theorem dX7_init_5 : decode cX7_init 5 = .ok (.bipush 10, 2) := by decide +kernel
theorem dX7_init_7 : decode cX7_init 7 = .ok (.newarray .int, 2) := by decide +kernel
theorem dX7_init_9 : decode cX7_init 9 = .ok (.putfield 7, 3) := by decide +kernel
theorem dX7_init_12 : decode cX7_init 12 = .ok (.aload_n 0, 1) := by decide +kernel
theorem dX7_init_13 : decode cX7_init 13 = .ok (.bipush 10, 2) := by decide +kernel
theorem dX7_init_15 : decode cX7_init 15 = .ok (.newarray .long, 2) := by decide +kernel
theorem dX7_init_17 : decode cX7_init 17 = .ok (.putfield 13, 3) := by decide +kernel
theorem dX7_init_20 : decode cX7_init 20 = .ok (.aload_n 0, 1) := by decide +kernel
theorem dX7_init_21 : decode cX7_init 21 = .ok (.bipush 10, 2) := by decide +kernel
theorem dX7_init_23 : decode cX7_init 23 = .ok (.newarray .long, 2) := by decide +kernel
theorem dX7_init_25 : decode cX7_init 25 = .ok (.putfield 17, 3) := by decide +kernel
theorem dX7_init_28 : decode cX7_init 28 = .ok (.aload_n 0, 1) := by decide +kernel
theorem dX7_init_29 : decode cX7_init 29 = .ok (.bipush 10, 2) := by decide +kernel
theorem dX7_init_31 : decode cX7_init 31 = .ok (.newarray .long, 2) := by decide +kernel
theorem dX7_init_33 : decode cX7_init 33 = .ok (.putfield 20, 3) := by decide +kernel
theorem dX7_init_36 : decode cX7_init 36 = .ok (.aload_n 0, 1) := by decide +kernel
theorem dX7_init_37 : decode cX7_init 37 = .ok (.bipush 10, 2) := by decide +kernel
theorem dX7_init_39 : decode cX7_init 39 = .ok (.newarray .long, 2) := by decide +kernel
theorem dX7_init_41 : decode cX7_init 41 = .ok (.putfield 23, 3) := by decide +kernel
theorem dX7_init_44 : decode cX7_init 44 = .ok (.aload_n 0, 1) := by decide +kernel
theorem dX7_init_45 : decode cX7_init 45 = .ok (.bipush 10, 2) := by decide +kernel
theorem dX7_init_47 : decode cX7_init 47 = .ok (.newarray .long, 2) := by decide +kernel
theorem dX7_init_49 : decode cX7_init 49 = .ok (.putfield 26, 3) := by decide +kernel
theorem dX7_init_52 : decode cX7_init 52 = .ok (.aload_n 0, 1) := by decide +kernel
theorem dX7_init_53 : decode cX7_init 53 = .ok (.bipush 10, 2) := by decide +kernel
theorem dX7_init_55 : decode cX7_init 55 = .ok (.newarray .long, 2) := by decide +kernel
theorem dX7_init_57 : decode cX7_init 57 = .ok (.putfield 29, 3) := by decide +kernel
theorem dX7_init_60 : decode cX7_init 60 = .ok (.aload_n 0, 1) := by decide +kernel
theorem dX7_init_61 : decode cX7_init 61 = .ok (.bipush 10, 2) := by decide +kernel
theorem dX7_init_63 : decode cX7_init 63 = .ok (.newarray .long, 2) := by decide +kernel
theorem dX7_init_65 : decode cX7_init 65 = .ok (.putfield 32, 3) := by decide +kernel
theorem dX7_init_68 : decode cX7_init 68 = .ok (.aload_n 0, 1) := by decide +kernel
theorem dX7_init_69 : decode cX7_init 69 = .ok (.bipush 10, 2) := by decide +kernel
theorem dX7_init_71 : decode cX7_init 71 = .ok (.newarray .long, 2) := by decide +kernel
theorem dX7_init_73 : decode cX7_init 73 = .ok (.putfield 35, 3) := by decide +kernel
theorem dX7_init_76 : decode cX7_init 76 = .ok (.aload_n 0, 1) := by decide +kernel
theorem dX7_init_77 : decode cX7_init 77 = .ok (.bipush 10, 2) := by decide +kernel
theorem dX7_init_79 : decode cX7_init 79 = .ok (.newarray .long, 2) := by decide +kernel
theorem dX7_init_81 : decode cX7_init 81 = .ok (.putfield 38, 3) := by decide +kernel
theorem dX7_init_84 : decode cX7_init 84 = .ok (.aload_n 0, 1) := by decide +kernel
theorem dX7_init_85 : decode cX7_init 85 = .ok (.bipush 10, 2) := by decide +kernel
theorem dX7_init_87 : decode cX7_init 87 = .ok (.newarray .long, 2) := by decide +kernel
theorem dX7_init_89 : decode cX7_init 89 = .ok (.putfield 41, 3) := by decide +kernel
theorem dX7_init_92 : decode cX7_init 92 = .ok (.aload_n 0, 1) := by decide +kernel
theorem dX7_init_93 : decode cX7_init 93 = .ok (.bipush 10, 2) := by decide +kernel
theorem dX7_init_95 : decode cX7_init 95 = .ok (.newarray .boolean, 2) := by decide +kernel
theorem dX7_init_97 : decode cX7_init 97 = .ok (.putfield 44, 3) := by decide +kernel
theorem dX7_init_100 : decode cX7_init 100 = .ok (.aload_n 0, 1) := by decide +kernel
theorem dX7_init_101 : decode cX7_init 101 = .ok (.bipush 10, 2) := by decide +kernel
theorem dX7_init_103 : decode cX7_init 103 = .ok (.newarray .long, 2) := by decide +kernel
theorem dX7_init_105 : decode cX7_init 105 = .ok (.putfield 48, 3) := by decide +kernel
theorem dX7_init_108 : decode cX7_init 108 = .ok (.aload_n 0, 1) := by decide +kernel
theorem dX7_init_109 : decode cX7_init 109 = .ok (.bipush 10, 2) := by decide +kernel
theorem dX7_init_111 : decode cX7_init 111 = .ok (.newarray .long, 2) := by decide +kernel
theorem dX7_init_113 : decode cX7_init 113 = .ok (.putfield 51, 3) := by decide +kernel
theorem dX7_init_116 : decode cX7_init 116 = .ok (.aload_n 0, 1) := by decide +kernel
theorem dX7_init_117 : decode cX7_init 117 = .ok (.bipush 10, 2) := by decide +kernel
theorem dX7_init_119 : decode cX7_init 119 = .ok (.newarray .int, 2) := by decide +kernel
theorem dX7_init_121 : decode cX7_init 121 = .ok (.putfield 54, 3) := by decide +kernel
theorem dX7_init_124 : decode cX7_init 124 = .ok (.aload_n 0, 1) := by decide +kernel
theorem dX7_init_125 : decode cX7_init 125 = .ok (.bipush 10, 2) := by decide +kernel
theorem dX7_init_127 : decode cX7_init 127 = .ok (.newarray .int, 2) := by decide +kernel
theorem dX7_init_129 : decode cX7_init 129 = .ok (.putfield 57, 3) := by decide +kernel
theorem dX7_init_132 : decode cX7_init 132 = .ok (.aload_n 0, 1) := by decide +kernel
theorem dX7_init_133 : decode cX7_init 133 = .ok (.bipush 100, 2) := by decide +kernel
theorem dX7_init_135 : decode cX7_init 135 = .ok (.newarray .boolean, 2) := by decide +kernel
theorem dX7_init_137 : decode cX7_init 137 = .ok (.putfield 60, 3) := by decide +kernel
theorem dX7_init_140 : decode cX7_init 140 = .ok (.aload_n 0, 1) := by decide +kernel
theorem dX7_init_141 : decode cX7_init 141 = .ok (.bipush 100, 2) := by decide +kernel
theorem dX7_init_143 : decode cX7_init 143 = .ok (.newarray .long, 2) := by decide +kernel
theorem dX7_init_145 : decode cX7_init 145 = .ok (.putfield 63, 3) := by decide +kernel
theorem dX7_init_148 : decode cX7_init 148 = .ok (.aload_n 0, 1) := by decide +kernel
theorem dX7_init_149 : decode cX7_init 149 = .ok (.bipush 100, 2) := by decide +kernel
theorem dX7_init_151 : decode cX7_init 151 = .ok (.newarray .long, 2) := by decide +kernel
theorem dX7_init_153 : decode cX7_init 153 = .ok (.putfield 66, 3) := by decide +kernel
theorem dX7_init_156 : decode cX7_init 156 = .ok (.aload_n 0, 1) := by decide +kernel
theorem dX7_init_157 : decode cX7_init 157 = .ok (.bipush 100, 2) := by decide +kernel
theorem dX7_init_159 : decode cX7_init 159 = .ok (.newarray .long, 2) := by decide +kernel
theorem dX7_init_161 : decode cX7_init 161 = .ok (.putfield 69, 3) := by decide +kernel
theorem dX7_init_164 : decode cX7_init 164 = .ok (.aload_n 0, 1) := by decide +kernel
theorem dX7_init_165 : decode cX7_init 165 = .ok (.sipush 200, 3) := by decide +kernel
theorem dX7_init_168 : decode cX7_init 168 = .ok (.newarray .int, 2) := by decide +kernel
theorem dX7_init_170 : decode cX7_init 170 = .ok (.putfield 72, 3) := by decide +kernel
theorem dX7_init_173 : decode cX7_init 173 = .ok (.aload_n 0, 1) := by decide +kernel
theorem dX7_init_174 : decode cX7_init 174 = .ok (.sipush 200, 3) := by decide +kernel
theorem dX7_init_177 : decode cX7_init 177 = .ok (.newarray .int, 2) := by decide +kernel
theorem dX7_init_179 : decode cX7_init 179 = .ok (.putfield 75, 3) := by decide +kernel
theorem dX7_init_182 : decode cX7_init 182 = .ok (.aload_n 0, 1) := by decide +kernel
theorem dX7_init_183 : decode cX7_init 183 = .ok (.sipush 200, 3) := by decide +kernel
theorem dX7_init_186 : decode cX7_init 186 = .ok (.newarray .int, 2) := by decide +kernel
theorem dX7_init_188 : decode cX7_init 188 = .ok (.putfield 78, 3) := by decide +kernel
theorem dX7_init_191 : decode cX7_init 191 = .ok (.aload_n 0, 1) := by decide +kernel
theorem dX7_init_192 : decode cX7_init 192 = .ok (.sipush 200, 3) := by decide +kernel
theorem dX7_init_195 : decode cX7_init 195 = .ok (.newarray .long, 2) := by decide +kernel
theorem dX7_init_197 : decode cX7_init 197 = .ok (.putfield 81, 3) := by decide +kernel
theorem dX7_init_200 : decode cX7_init 200 = .ok (.aload_n 0, 1) := by decide +kernel
theorem dX7_init_201 : decode cX7_init 201 = .ok (.sipush 200, 3) := by decide +kernel
theorem dX7_init_204 : decode cX7_init 204 = .ok (.newarray .boolean, 2) := by decide +kernel
theorem dX7_init_206 : decode cX7_init 206 = .ok (.putfield 84, 3) := by decide +kernel
theorem dX7_init_209 : decode cX7_init 209 = .ok (.aload_n 0, 1) := by decide +kernel
theorem dX7_init_210 : decode cX7_init 210 = .ok (.sipush 200, 3) := by decide +kernel
theorem dX7_init_213 : decode cX7_init 213 = .ok (.newarray .long, 2) := by decide +kernel
theorem dX7_init_215 : decode cX7_init 215 = .ok (.putfield 87, 3) := by decide +kernel
theorem dX7_init_218 : decode cX7_init 218 = .ok (.aload_n 0, 1) := by decide +kernel
theorem dX7_init_219 : decode cX7_init 219 = .ok (.sipush 200, 3) := by decide +kernel
theorem dX7_init_222 : decode cX7_init 222 = .ok (.newarray .long, 2) := by decide +kernel
theorem dX7_init_224 : decode cX7_init 224 = .ok (.putfield 90, 3) := by decide +kernel
theorem dX7_init_227 : decode cX7_init 227 = .ok (.aload_n 0, 1) := by decide +kernel
theorem dX7_init_228 : decode cX7_init 228 = .ok (.bipush 100, 2) := by decide +kernel
theorem dX7_init_230 : decode cX7_init 230 = .ok (.newarray .long, 2) := by decide +kernel
theorem dX7_init_232 : decode cX7_init 232 = .ok (.putfield 93, 3) := by decide +kernel
theorem dX7_init_235 : decode cX7_init 235 = .ok (.aload_n 0, 1) := by decide +kernel
theorem dX7_init_236 : decode cX7_init 236 = .ok (.bipush 100, 2) := by decide +kernel
theorem dX7_init_238 : decode cX7_init 238 = .ok (.newarray .long, 2) := by decide +kernel
theorem dX7_init_240 : decode cX7_init 240 = .ok (.putfield 96, 3) := by decide +kernel
theorem dX7_init_243 : decode cX7_init 243 = .ok (.aload_n 0, 1) := by decide +kernel
theorem dX7_init_244 : decode cX7_init 244 = .ok (.bipush 100, 2) := by decide +kernel
theorem dX7_init_246 : decode cX7_init 246 = .ok (.newarray .int, 2) := by decide +kernel
theorem dX7_init_248 : decode cX7_init 248 = .ok (.putfield 99, 3) := by decide +kernel
theorem dX7_init_251 : decode cX7_init 251 = .ok (.aload_n 0, 1) := by decide +kernel
theorem dX7_init_252 : decode cX7_init 252 = .ok (.bipush 100, 2) := by decide +kernel
theorem dX7_init_254 : decode cX7_init 254 = .ok (.newarray .boolean, 2) := by decide +kernel
theorem dX7_init_256 : decode cX7_init 256 = .ok (.putfield 102, 3) := by decide +kernel
theorem dX7_init_259 : decode cX7_init 259 = .ok (.aload_n 0, 1) := by decide +kernel
theorem dX7_init_260 : decode cX7_init 260 = .ok (.bipush 30, 2) := by decide +kernel
theorem dX7_init_262 : decode cX7_init 262 = .ok (.newarray .long, 2) := by decide +kernel
theorem dX7_init_264 : decode cX7_init 264 = .ok (.putfield 105, 3) := by decide +kernel
theorem dX7_init_267 : decode cX7_init 267 = .ok (.aload_n 0, 1) := by decide +kernel
theorem dX7_init_268 : decode cX7_init 268 = .ok (.bipush 30, 2) := by decide +kernel
theorem dX7_init_270 : decode cX7_init 270 = .ok (.newarray .long, 2) := by decide +kernel
theorem dX7_init_272 : decode cX7_init 272 = .ok (.putfield 108, 3) := by decide +kernel
theorem dX7_init_275 : decode cX7_init 275 = .ok (.aload_n 0, 1) := by decide +kernel
theorem dX7_init_276 : decode cX7_init 276 = .ok (.sipush 900, 3) := by decide +kernel
theorem dX7_init_279 : decode cX7_init 279 = .ok (.newarray .boolean, 2) := by decide +kernel
theorem dX7_init_281 : decode cX7_init 281 = .ok (.putfield 111, 3) := by decide +kernel
theorem dX7_init_284 : decode cX7_init 284 = .ok (.aload_n 0, 1) := by decide +kernel
theorem dX7_init_285 : decode cX7_init 285 = .ok (.bipush 10, 2) := by decide +kernel
theorem dX7_init_287 : decode cX7_init 287 = .ok (.newarray .int, 2) := by decide +kernel
theorem dX7_init_289 : decode cX7_init 289 = .ok (.putfield 114, 3) := by decide +kernel
theorem dX7_init_292 : decode cX7_init 292 = .ok (.aload_n 0, 1) := by decide +kernel
theorem dX7_init_293 : decode cX7_init 293 = .ok (.bipush 10, 2) := by decide +kernel
theorem dX7_init_295 : decode cX7_init 295 = .ok (.newarray .long, 2) := by decide +kernel
theorem dX7_init_297 : decode cX7_init 297 = .ok (.putfield 117, 3) := by decide +kernel
theorem dX7_init_300 : decode cX7_init 300 = .ok (.aload_n 0, 1) := by decide +kernel
theorem dX7_init_301 : decode cX7_init 301 = .ok (.bipush 10, 2) := by decide +kernel
theorem dX7_init_303 : decode cX7_init 303 = .ok (.newarray .long, 2) := by decide +kernel
theorem dX7_init_305 : decode cX7_init 305 = .ok (.putfield 120, 3) := by decide +kernel
theorem dX7_init_308 : decode cX7_init 308 = .ok (.aload_n 0, 1) := by decide +kernel
theorem dX7_init_309 : decode cX7_init 309 = .ok (.bipush 20, 2) := by decide +kernel
theorem dX7_init_311 : decode cX7_init 311 = .ok (.newarray .long, 2) := by decide +kernel
theorem dX7_init_313 : decode cX7_init 313 = .ok (.putfield 123, 3) := by decide +kernel
theorem dX7_init_316 : decode cX7_init 316 = .ok (.aload_n 0, 1) := by decide +kernel
theorem dX7_init_317 : decode cX7_init 317 = .ok (.sipush 900, 3) := by decide +kernel
theorem dX7_init_320 : decode cX7_init 320 = .ok (.newarray .int, 2) := by decide +kernel
theorem dX7_init_322 : decode cX7_init 322 = .ok (.putfield 126, 3) := by decide +kernel
theorem dX7_init_325 : decode cX7_init 325 = .ok (.aload_n 0, 1) := by decide +kernel
theorem dX7_init_326 : decode cX7_init 326 = .ok (.bipush 30, 2) := by decide +kernel
theorem dX7_init_328 : decode cX7_init 328 = .ok (.newarray .long, 2) := by decide +kernel
theorem dX7_init_330 : decode cX7_init 330 = .ok (.putfield 129, 3) := by decide +kernel
theorem dX7_init_333 : decode cX7_init 333 = .ok (.aload_n 0, 1) := by decide +kernel
theorem dX7_init_334 : decode cX7_init 334 = .ok (.bipush 30, 2) := by decide +kernel
theorem dX7_init_336 : decode cX7_init 336 = .ok (.newarray .int, 2) := by decide +kernel
theorem dX7_init_338 : decode cX7_init 338 = .ok (.putfield 132, 3) := by decide +kernel
theorem dX7_init_341 : decode cX7_init 341 = .ok (.return_, 1) := by decide +kernel
theorem dX7_floor_0 : decode cX7_floor 0 = .ok (.lload_n 0, 1) := by decide +kernel
theorem dX7_floor_1 : decode cX7_floor 1 = .ok (.lload_n 2, 1) := by decide +kernel
theorem dX7_floor_2 : decode cX7_floor 2 = .ok (.ldiv, 1) := by decide +kernel
theorem dX7_floor_3 : decode cX7_floor 3 = .ok (.lstore 4, 2) := by decide +kernel
theorem dX7_floor_5 : decode cX7_floor 5 = .ok (.lload_n 0, 1) := by decide +kernel
theorem dX7_floor_6 : decode cX7_floor 6 = .ok (.lload_n 2, 1) := by decide +kernel
theorem dX7_floor_7 : decode cX7_floor 7 = .ok (.lrem, 1) := by decide +kernel
theorem dX7_floor_8 : decode cX7_floor 8 = .ok (.lconst 0, 1) := by decide +kernel
theorem dX7_floor_9 : decode cX7_floor 9 = .ok (.lcmp, 1) := by decide +kernel
theorem dX7_floor_10 : decode cX7_floor 10 = .ok (.ifCond .eq 35, 3) := by decide +kernel
theorem dX7_floor_13 : decode cX7_floor 13 = .ok (.lload_n 0, 1) := by decide +kernel
theorem dX7_floor_14 : decode cX7_floor 14 = .ok (.lconst 0, 1) := by decide +kernel
theorem dX7_floor_15 : decode cX7_floor 15 = .ok (.lcmp, 1) := by decide +kernel
theorem dX7_floor_16 : decode cX7_floor 16 = .ok (.ifCond .ge 7, 3) := by decide +kernel
theorem dX7_floor_19 : decode cX7_floor 19 = .ok (.iconst 1, 1) := by decide +kernel
theorem dX7_floor_20 : decode cX7_floor 20 = .ok (.goto 4, 3) := by decide +kernel
theorem dX7_floor_23 : decode cX7_floor 23 = .ok (.iconst 0, 1) := by decide +kernel
theorem dX7_floor_24 : decode cX7_floor 24 = .ok (.lload_n 2, 1) := by decide +kernel
theorem dX7_floor_25 : decode cX7_floor 25 = .ok (.lconst 0, 1) := by decide +kernel
theorem dX7_floor_26 : decode cX7_floor 26 = .ok (.lcmp, 1) := by decide +kernel
theorem dX7_floor_27 : decode cX7_floor 27 = .ok (.ifCond .ge 7, 3) := by decide +kernel
theorem dX7_floor_30 : decode cX7_floor 30 = .ok (.iconst 1, 1) := by decide +kernel
theorem dX7_floor_31 : decode cX7_floor 31 = .ok (.goto 4, 3) := by decide +kernel
theorem dX7_floor_34 : decode cX7_floor 34 = .ok (.iconst 0, 1) := by decide +kernel
theorem dX7_floor_35 : decode cX7_floor 35 = .ok (.if_icmp .eq 10, 3) := by decide +kernel
theorem dX7_floor_38 : decode cX7_floor 38 = .ok (.lload 4, 2) := by decide +kernel
theorem dX7_floor_40 : decode cX7_floor 40 = .ok (.lconst 1, 1) := by decide +kernel
theorem dX7_floor_41 : decode cX7_floor 41 = .ok (.lsub, 1) := by decide +kernel
theorem dX7_floor_42 : decode cX7_floor 42 = .ok (.goto 5, 3) := by decide +kernel
theorem dX7_floor_45 : decode cX7_floor 45 = .ok (.lload 4, 2) := by decide +kernel
theorem dX7_floor_47 : decode cX7_floor 47 = .ok (.lreturn, 1) := by decide +kernel
theorem dX7_ceil_0 : decode cX7_ceil 0 = .ok (.lload_n 0, 1) := by decide +kernel
theorem dX7_ceil_1 : decode cX7_ceil 1 = .ok (.lneg, 1) := by decide +kernel
theorem dX7_ceil_2 : decode cX7_ceil 2 = .ok (.lload_n 2, 1) := by decide +kernel
theorem dX7_ceil_3 : decode cX7_ceil 3 = .ok (.invokestatic 135, 3) := by decide +kernel
theorem dX7_ceil_6 : decode cX7_ceil 6 = .ok (.lneg, 1) := by decide +kernel
theorem dX7_ceil_7 : decode cX7_ceil 7 = .ok (.lreturn, 1) := by decide +kernel
theorem dX7_in_0 : decode cX7_in 0 = .ok (.lload_n 0, 1) := by decide +kernel
theorem dX7_in_1 : decode cX7_in 1 = .ok (.lload_n 2, 1) := by decide +kernel
theorem dX7_in_2 : decode cX7_in 2 = .ok (.lcmp, 1) := by decide +kernel
theorem dX7_in_3 : decode cX7_in 3 = .ok (.ifCond .lt 14, 3) := by decide +kernel
theorem dX7_in_6 : decode cX7_in 6 = .ok (.lload_n 0, 1) := by decide +kernel
theorem dX7_in_7 : decode cX7_in 7 = .ok (.lload 4, 2) := by decide +kernel
theorem dX7_in_9 : decode cX7_in 9 = .ok (.lcmp, 1) := by decide +kernel
theorem dX7_in_10 : decode cX7_in 10 = .ok (.ifCond .gt 7, 3) := by decide +kernel
theorem dX7_in_13 : decode cX7_in 13 = .ok (.iconst 1, 1) := by decide +kernel
theorem dX7_in_14 : decode cX7_in 14 = .ok (.goto 4, 3) := by decide +kernel
theorem dX7_in_17 : decode cX7_in 17 = .ok (.iconst 0, 1) := by decide +kernel
theorem dX7_in_18 : decode cX7_in 18 = .ok (.ireturn, 1) := by decide +kernel
theorem dX7_isMember_0 : decode cX7_isMember 0 = .ok (.iload_n 1, 1) := by decide +kernel
theorem dX7_isMember_1 : decode cX7_isMember 1 = .ok (.i2l, 1) := by decide +kernel
theorem dX7_isMember_2 : decode cX7_isMember 2 = .ok (.lconst 0, 1) := by decide +kernel
theorem dX7_isMember_3 : decode cX7_isMember 3 = .ok (.aload_n 0, 1) := by decide +kernel
theorem dX7_isMember_4 : decode cX7_isMember 4 = .ok (.getfield 139, 3) := by decide +kernel
theorem dX7_isMember_7 : decode cX7_isMember 7 = .ok (.i2l, 1) := by decide +kernel
theorem dX7_isMember_8 : decode cX7_isMember 8 = .ok (.lconst 1, 1) := by decide +kernel
theorem dX7_isMember_9 : decode cX7_isMember 9 = .ok (.lsub, 1) := by decide +kernel
theorem dX7_isMember_10 : decode cX7_isMember 10 = .ok (.invokestatic 143, 3) := by decide +kernel
theorem dX7_isMember_13 : decode cX7_isMember 13 = .ok (.ireturn, 1) := by decide +kernel
theorem dX7_go_0 : decode cX7_go 0 = .ok (.iload_n 1, 1) := by decide +kernel
theorem dX7_go_1 : decode cX7_go 1 = .ok (.i2l, 1) := by decide +kernel
theorem dX7_go_2 : decode cX7_go 2 = .ok (.lconst 1, 1) := by decide +kernel
theorem dX7_go_3 : decode cX7_go 3 = .ok (.ldc2_w 147, 3) := by decide +kernel
theorem dX7_go_6 : decode cX7_go 6 = .ok (.invokestatic 143, 3) := by decide +kernel
theorem dX7_go_9 : decode cX7_go 9 = .ok (.ifCond .eq 17, 3) := by decide +kernel
theorem dX7_go_12 : decode cX7_go 12 = .ok (.aload_n 0, 1) := by decide +kernel
theorem dX7_go_13 : decode cX7_go 13 = .ok (.getfield 149, 3) := by decide +kernel
theorem dX7_go_16 : decode cX7_go 16 = .ok (.iload_n 1, 1) := by decide +kernel
theorem dX7_go_17 : decode cX7_go 17 = .ok (.i2l, 1) := by decide +kernel
theorem dX7_go_18 : decode cX7_go 18 = .ok (.ladd, 1) := by decide +kernel
theorem dX7_go_19 : decode cX7_go 19 = .ok (.ldc2_w 153, 3) := by decide +kernel
theorem dX7_go_22 : decode cX7_go 22 = .ok (.lcmp, 1) := by decide +kernel
theorem dX7_go_23 : decode cX7_go 23 = .ok (.ifCond .le 7, 3) := by decide +kernel
theorem dX7_go_26 : decode cX7_go 26 = .ok (.ldc2_w 155, 3) := by decide +kernel
theorem dX7_go_29 : decode cX7_go 29 = .ok (.lreturn, 1) := by decide +kernel
theorem dX7_go_30 : decode cX7_go 30 = .ok (.aload_n 0, 1) := by decide +kernel
theorem dX7_go_31 : decode cX7_go 31 = .ok (.dup, 1) := by decide +kernel
theorem dX7_go_32 : decode cX7_go 32 = .ok (.getfield 149, 3) := by decide +kernel
theorem dX7_go_35 : decode cX7_go 35 = .ok (.iload_n 1, 1) := by decide +kernel
theorem dX7_go_36 : decode cX7_go 36 = .ok (.i2l, 1) := by decide +kernel
theorem dX7_go_37 : decode cX7_go 37 = .ok (.ladd, 1) := by decide +kernel
theorem dX7_go_38 : decode cX7_go 38 = .ok (.putfield 149, 3) := by decide +kernel
theorem dX7_go_41 : decode cX7_go 41 = .ok (.aload_n 0, 1) := by decide +kernel
theorem dX7_go_42 : decode cX7_go 42 = .ok (.getfield 149, 3) := by decide +kernel
theorem dX7_go_45 : decode cX7_go 45 = .ok (.lreturn, 1) := by decide +kernel
theorem dX7_member_0 : decode cX7_member 0 = .ok (.iload_n 1, 1) := by decide +kernel
theorem dX7_member_1 : decode cX7_member 1 = .ok (.i2l, 1) := by decide +kernel
theorem dX7_member_2 : decode cX7_member 2 = .ok (.lconst 0, 1) := by decide +kernel
theorem dX7_member_3 : decode cX7_member 3 = .ok (.ldc2_w 157, 3) := by decide +kernel
theorem dX7_member_6 : decode cX7_member 6 = .ok (.invokestatic 143, 3) := by decide +kernel
theorem dX7_member_9 : decode cX7_member 9 = .ok (.ifCond .eq 36, 3) := by decide +kernel
theorem dX7_member_12 : decode cX7_member 12 = .ok (.iload_n 2, 1) := by decide +kernel
theorem dX7_member_13 : decode cX7_member 13 = .ok (.i2l, 1) := by decide +kernel
theorem dX7_member_14 : decode cX7_member 14 = .ok (.lconst 0, 1) := by decide +kernel
theorem dX7_member_15 : decode cX7_member 15 = .ok (.ldc2_w 159, 3) := by decide +kernel
theorem dX7_member_18 : decode cX7_member 18 = .ok (.invokestatic 143, 3) := by decide +kernel
theorem dX7_member_21 : decode cX7_member 21 = .ok (.ifCond .eq 24, 3) := by decide +kernel
theorem dX7_member_24 : decode cX7_member 24 = .ok (.iload_n 3, 1) := by decide +kernel
theorem dX7_member_25 : decode cX7_member 25 = .ok (.i2l, 1) := by decide +kernel
theorem dX7_member_26 : decode cX7_member 26 = .ok (.lconst 0, 1) := by decide +kernel
theorem dX7_member_27 : decode cX7_member 27 = .ok (.ldc2_w 161, 3) := by decide +kernel
theorem dX7_member_30 : decode cX7_member 30 = .ok (.invokestatic 143, 3) := by decide +kernel
theorem dX7_member_33 : decode cX7_member 33 = .ok (.ifCond .eq 12, 3) := by decide +kernel
theorem dX7_member_36 : decode cX7_member 36 = .ok (.aload_n 0, 1) := by decide +kernel
theorem dX7_member_37 : decode cX7_member 37 = .ok (.getfield 139, 3) := by decide +kernel
theorem dX7_member_40 : decode cX7_member 40 = .ok (.bipush 10, 2) := by decide +kernel
theorem dX7_member_42 : decode cX7_member 42 = .ok (.if_icmp .ne 7, 3) := by decide +kernel
theorem dX7_member_45 : decode cX7_member 45 = .ok (.ldc2_w 155, 3) := by decide +kernel
theorem dX7_member_48 : decode cX7_member 48 = .ok (.lreturn, 1) := by decide +kernel
theorem dX7_member_49 : decode cX7_member 49 = .ok (.aload_n 0, 1) := by decide +kernel
theorem dX7_member_50 : decode cX7_member 50 = .ok (.getfield 139, 3) := by decide +kernel
theorem dX7_member_53 : decode cX7_member 53 = .ok (.istore 4, 2) := by decide +kernel
theorem dX7_member_55 : decode cX7_member 55 = .ok (.aload_n 0, 1) := by decide +kernel
theorem dX7_member_56 : decode cX7_member 56 = .ok (.getfield 7, 3) := by decide +kernel
theorem dX7_member_59 : decode cX7_member 59 = .ok (.iload 4, 2) := by decide +kernel
theorem dX7_member_61 : decode cX7_member 61 = .ok (.iload_n 1, 1) := by decide +kernel
theorem dX7_member_62 : decode cX7_member 62 = .ok (.iastore, 1) := by decide +kernel
theorem dX7_member_63 : decode cX7_member 63 = .ok (.aload_n 0, 1) := by decide +kernel
theorem dX7_member_64 : decode cX7_member 64 = .ok (.getfield 13, 3) := by decide +kernel
theorem dX7_member_67 : decode cX7_member 67 = .ok (.iload 4, 2) := by decide +kernel
theorem dX7_member_69 : decode cX7_member 69 = .ok (.iload_n 2, 1) := by decide +kernel
theorem dX7_member_70 : decode cX7_member 70 = .ok (.i2l, 1) := by decide +kernel
theorem dX7_member_71 : decode cX7_member 71 = .ok (.lastore, 1) := by decide +kernel
theorem dX7_member_72 : decode cX7_member 72 = .ok (.aload_n 0, 1) := by decide +kernel
theorem dX7_member_73 : decode cX7_member 73 = .ok (.getfield 17, 3) := by decide +kernel
theorem dX7_member_76 : decode cX7_member 76 = .ok (.iload 4, 2) := by decide +kernel
theorem dX7_member_78 : decode cX7_member 78 = .ok (.iload_n 3, 1) := by decide +kernel
theorem dX7_member_79 : decode cX7_member 79 = .ok (.i2l, 1) := by decide +kernel
theorem dX7_member_80 : decode cX7_member 80 = .ok (.lastore, 1) := by decide +kernel
theorem dX7_member_81 : decode cX7_member 81 = .ok (.aload_n 0, 1) := by decide +kernel
theorem dX7_member_82 : decode cX7_member 82 = .ok (.getfield 20, 3) := by decide +kernel
theorem dX7_member_85 : decode cX7_member 85 = .ok (.iload 4, 2) := by decide +kernel
theorem dX7_member_87 : decode cX7_member 87 = .ok (.aload_n 0, 1) := by decide +kernel
theorem dX7_member_88 : decode cX7_member 88 = .ok (.getfield 149, 3) := by decide +kernel
theorem dX7_member_91 : decode cX7_member 91 = .ok (.lastore, 1) := by decide +kernel
theorem dX7_member_92 : decode cX7_member 92 = .ok (.aload_n 0, 1) := by decide +kernel
theorem dX7_member_93 : decode cX7_member 93 = .ok (.getfield 23, 3) := by decide +kernel
theorem dX7_member_96 : decode cX7_member 96 = .ok (.iload 4, 2) := by decide +kernel
theorem dX7_member_98 : decode cX7_member 98 = .ok (.lconst 1, 1) := by decide +kernel
theorem dX7_member_99 : decode cX7_member 99 = .ok (.lastore, 1) := by decide +kernel
theorem dX7_member_100 : decode cX7_member 100 = .ok (.aload_n 0, 1) := by decide +kernel
theorem dX7_member_101 : decode cX7_member 101 = .ok (.getfield 26, 3) := by decide +kernel
theorem dX7_member_104 : decode cX7_member 104 = .ok (.iload 4, 2) := by decide +kernel
theorem dX7_member_106 : decode cX7_member 106 = .ok (.lconst 1, 1) := by decide +kernel
theorem dX7_member_107 : decode cX7_member 107 = .ok (.lastore, 1) := by decide +kernel
theorem dX7_member_108 : decode cX7_member 108 = .ok (.aload_n 0, 1) := by decide +kernel
theorem dX7_member_109 : decode cX7_member 109 = .ok (.getfield 29, 3) := by decide +kernel
theorem dX7_member_112 : decode cX7_member 112 = .ok (.iload 4, 2) := by decide +kernel
theorem dX7_member_114 : decode cX7_member 114 = .ok (.aload_n 0, 1) := by decide +kernel
theorem dX7_member_115 : decode cX7_member 115 = .ok (.getfield 149, 3) := by decide +kernel
theorem dX7_member_118 : decode cX7_member 118 = .ok (.iload_n 3, 1) := by decide +kernel
theorem dX7_member_119 : decode cX7_member 119 = .ok (.i2l, 1) := by decide +kernel
theorem dX7_member_120 : decode cX7_member 120 = .ok (.lsub, 1) := by decide +kernel
theorem dX7_member_121 : decode cX7_member 121 = .ok (.lastore, 1) := by decide +kernel
theorem dX7_member_122 : decode cX7_member 122 = .ok (.aload_n 0, 1) := by decide +kernel
theorem dX7_member_123 : decode cX7_member 123 = .ok (.getfield 32, 3) := by decide +kernel
theorem dX7_member_126 : decode cX7_member 126 = .ok (.iload 4, 2) := by decide +kernel
theorem dX7_member_128 : decode cX7_member 128 = .ok (.aload_n 0, 1) := by decide +kernel
theorem dX7_member_129 : decode cX7_member 129 = .ok (.getfield 149, 3) := by decide +kernel
theorem dX7_member_132 : decode cX7_member 132 = .ok (.iload_n 3, 1) := by decide +kernel
theorem dX7_member_133 : decode cX7_member 133 = .ok (.i2l, 1) := by decide +kernel
theorem dX7_member_134 : decode cX7_member 134 = .ok (.ladd, 1) := by decide +kernel
theorem dX7_member_135 : decode cX7_member 135 = .ok (.lastore, 1) := by decide +kernel
theorem dX7_member_136 : decode cX7_member 136 = .ok (.aload_n 0, 1) := by decide +kernel
theorem dX7_member_137 : decode cX7_member 137 = .ok (.getfield 48, 3) := by decide +kernel
theorem dX7_member_140 : decode cX7_member 140 = .ok (.iload 4, 2) := by decide +kernel
theorem dX7_member_142 : decode cX7_member 142 = .ok (.aload_n 0, 1) := by decide +kernel
theorem dX7_member_143 : decode cX7_member 143 = .ok (.getfield 149, 3) := by decide +kernel
theorem dX7_member_146 : decode cX7_member 146 = .ok (.iload_n 3, 1) := by decide +kernel
theorem dX7_member_147 : decode cX7_member 147 = .ok (.i2l, 1) := by decide +kernel
theorem dX7_member_148 : decode cX7_member 148 = .ok (.lsub, 1) := by decide +kernel
theorem dX7_member_149 : decode cX7_member 149 = .ok (.lastore, 1) := by decide +kernel
theorem dX7_member_150 : decode cX7_member 150 = .ok (.aload_n 0, 1) := by decide +kernel
theorem dX7_member_151 : decode cX7_member 151 = .ok (.dup, 1) := by decide +kernel
theorem dX7_member_152 : decode cX7_member 152 = .ok (.getfield 139, 3) := by decide +kernel
theorem dX7_member_155 : decode cX7_member 155 = .ok (.iconst 1, 1) := by decide +kernel
theorem dX7_member_156 : decode cX7_member 156 = .ok (.iadd, 1) := by decide +kernel
theorem dX7_member_157 : decode cX7_member 157 = .ok (.putfield 139, 3) := by decide +kernel
theorem dX7_member_160 : decode cX7_member 160 = .ok (.iload 4, 2) := by decide +kernel
theorem dX7_member_162 : decode cX7_member 162 = .ok (.i2l, 1) := by decide +kernel
theorem dX7_member_163 : decode cX7_member 163 = .ok (.lreturn, 1) := by decide +kernel
theorem dX7_rate_0 : decode cX7_rate 0 = .ok (.aload_n 0, 1) := by decide +kernel
theorem dX7_rate_1 : decode cX7_rate 1 = .ok (.iload_n 1, 1) := by decide +kernel
theorem dX7_rate_2 : decode cX7_rate 2 = .ok (.invokevirtual 163, 3) := by decide +kernel
theorem dX7_rate_5 : decode cX7_rate 5 = .ok (.ifCond .eq 41, 3) := by decide +kernel
theorem dX7_rate_8 : decode cX7_rate 8 = .ok (.iload_n 2, 1) := by decide +kernel
theorem dX7_rate_9 : decode cX7_rate 9 = .ok (.i2l, 1) := by decide +kernel
theorem dX7_rate_10 : decode cX7_rate 10 = .ok (.lconst 1, 1) := by decide +kernel
theorem dX7_rate_11 : decode cX7_rate 11 = .ok (.ldc2_w 161, 3) := by decide +kernel
theorem dX7_rate_14 : decode cX7_rate 14 = .ok (.invokestatic 143, 3) := by decide +kernel
theorem dX7_rate_17 : decode cX7_rate 17 = .ok (.ifCond .eq 29, 3) := by decide +kernel
theorem dX7_rate_20 : decode cX7_rate 20 = .ok (.iload_n 3, 1) := by decide +kernel
theorem dX7_rate_21 : decode cX7_rate 21 = .ok (.i2l, 1) := by decide +kernel
theorem dX7_rate_22 : decode cX7_rate 22 = .ok (.lconst 1, 1) := by decide +kernel
theorem dX7_rate_23 : decode cX7_rate 23 = .ok (.ldc2_w 161, 3) := by decide +kernel
theorem dX7_rate_26 : decode cX7_rate 26 = .ok (.invokestatic 143, 3) := by decide +kernel
theorem dX7_rate_29 : decode cX7_rate 29 = .ok (.ifCond .eq 17, 3) := by decide +kernel
theorem dX7_rate_32 : decode cX7_rate 32 = .ok (.aload_n 0, 1) := by decide +kernel
theorem dX7_rate_33 : decode cX7_rate 33 = .ok (.getfield 20, 3) := by decide +kernel
theorem dX7_rate_36 : decode cX7_rate 36 = .ok (.iload_n 1, 1) := by decide +kernel
theorem dX7_rate_37 : decode cX7_rate 37 = .ok (.laload, 1) := by decide +kernel
theorem dX7_rate_38 : decode cX7_rate 38 = .ok (.aload_n 0, 1) := by decide +kernel
theorem dX7_rate_39 : decode cX7_rate 39 = .ok (.getfield 149, 3) := by decide +kernel
theorem dX7_rate_42 : decode cX7_rate 42 = .ok (.lcmp, 1) := by decide +kernel
theorem dX7_rate_43 : decode cX7_rate 43 = .ok (.ifCond .eq 7, 3) := by decide +kernel
theorem dX7_rate_46 : decode cX7_rate 46 = .ok (.ldc2_w 155, 3) := by decide +kernel
theorem dX7_rate_49 : decode cX7_rate 49 = .ok (.lreturn, 1) := by decide +kernel
theorem dX7_rate_50 : decode cX7_rate 50 = .ok (.aload_n 0, 1) := by decide +kernel
theorem dX7_rate_51 : decode cX7_rate 51 = .ok (.getfield 23, 3) := by decide +kernel
theorem dX7_rate_54 : decode cX7_rate 54 = .ok (.iload_n 1, 1) := by decide +kernel
theorem dX7_rate_55 : decode cX7_rate 55 = .ok (.iload_n 2, 1) := by decide +kernel
theorem dX7_rate_56 : decode cX7_rate 56 = .ok (.i2l, 1) := by decide +kernel
theorem dX7_rate_57 : decode cX7_rate 57 = .ok (.lastore, 1) := by decide +kernel
theorem dX7_rate_58 : decode cX7_rate 58 = .ok (.aload_n 0, 1) := by decide +kernel
theorem dX7_rate_59 : decode cX7_rate 59 = .ok (.getfield 26, 3) := by decide +kernel
theorem dX7_rate_62 : decode cX7_rate 62 = .ok (.iload_n 1, 1) := by decide +kernel
theorem dX7_rate_63 : decode cX7_rate 63 = .ok (.iload_n 3, 1) := by decide +kernel
theorem dX7_rate_64 : decode cX7_rate 64 = .ok (.i2l, 1) := by decide +kernel
theorem dX7_rate_65 : decode cX7_rate 65 = .ok (.lastore, 1) := by decide +kernel
theorem dX7_rate_66 : decode cX7_rate 66 = .ok (.iload_n 2, 1) := by decide +kernel
theorem dX7_rate_67 : decode cX7_rate 67 = .ok (.iload_n 3, 1) := by decide +kernel
theorem dX7_rate_68 : decode cX7_rate 68 = .ok (.if_icmp .le 11, 3) := by decide +kernel
theorem dX7_rate_71 : decode cX7_rate 71 = .ok (.iload_n 2, 1) := by decide +kernel
theorem dX7_rate_72 : decode cX7_rate 72 = .ok (.i2l, 1) := by decide +kernel
theorem dX7_rate_73 : decode cX7_rate 73 = .ok (.iload_n 3, 1) := by decide +kernel
theorem dX7_rate_74 : decode cX7_rate 74 = .ok (.i2l, 1) := by decide +kernel
theorem dX7_rate_75 : decode cX7_rate 75 = .ok (.lsub, 1) := by decide +kernel
theorem dX7_rate_76 : decode cX7_rate 76 = .ok (.goto 8, 3) := by decide +kernel
theorem dX7_rate_79 : decode cX7_rate 79 = .ok (.iload_n 3, 1) := by decide +kernel
theorem dX7_rate_80 : decode cX7_rate 80 = .ok (.i2l, 1) := by decide +kernel
theorem dX7_rate_81 : decode cX7_rate 81 = .ok (.iload_n 2, 1) := by decide +kernel
theorem dX7_rate_82 : decode cX7_rate 82 = .ok (.i2l, 1) := by decide +kernel
theorem dX7_rate_83 : decode cX7_rate 83 = .ok (.lsub, 1) := by decide +kernel
theorem dX7_rate_84 : decode cX7_rate 84 = .ok (.lstore 4, 2) := by decide +kernel
theorem dX7_rate_86 : decode cX7_rate 86 = .ok (.lload 4, 2) := by decide +kernel
theorem dX7_rate_88 : decode cX7_rate 88 = .ok (.ldc2_w 167, 3) := by decide +kernel
theorem dX7_rate_91 : decode cX7_rate 91 = .ok (.lmul, 1) := by decide +kernel
theorem dX7_rate_92 : decode cX7_rate 92 = .ok (.aload_n 0, 1) := by decide +kernel
theorem dX7_rate_93 : decode cX7_rate 93 = .ok (.getfield 13, 3) := by decide +kernel
theorem dX7_rate_96 : decode cX7_rate 96 = .ok (.iload_n 1, 1) := by decide +kernel
theorem dX7_rate_97 : decode cX7_rate 97 = .ok (.laload, 1) := by decide +kernel
theorem dX7_rate_98 : decode cX7_rate 98 = .ok (.iload_n 3, 1) := by decide +kernel
theorem dX7_rate_99 : decode cX7_rate 99 = .ok (.i2l, 1) := by decide +kernel
theorem dX7_rate_100 : decode cX7_rate 100 = .ok (.lmul, 1) := by decide +kernel
theorem dX7_rate_101 : decode cX7_rate 101 = .ok (.lcmp, 1) := by decide +kernel
theorem dX7_rate_102 : decode cX7_rate 102 = .ok (.ifCond .gt 7, 3) := by decide +kernel
theorem dX7_rate_105 : decode cX7_rate 105 = .ok (.lconst 1, 1) := by decide +kernel
theorem dX7_rate_106 : decode cX7_rate 106 = .ok (.goto 4, 3) := by decide +kernel
theorem dX7_rate_109 : decode cX7_rate 109 = .ok (.lconst 0, 1) := by decide +kernel
theorem dX7_rate_110 : decode cX7_rate 110 = .ok (.lreturn, 1) := by decide +kernel
theorem dX7_lie_0 : decode cX7_lie 0 = .ok (.aload_n 0, 1) := by decide +kernel
theorem dX7_lie_1 : decode cX7_lie 1 = .ok (.iload_n 1, 1) := by decide +kernel
theorem dX7_lie_2 : decode cX7_lie 2 = .ok (.invokevirtual 163, 3) := by decide +kernel
theorem dX7_lie_5 : decode cX7_lie 5 = .ok (.ifCond .eq 47, 3) := by decide +kernel
theorem dX7_lie_8 : decode cX7_lie 8 = .ok (.aload_n 0, 1) := by decide +kernel
theorem dX7_lie_9 : decode cX7_lie 9 = .ok (.getfield 7, 3) := by decide +kernel
theorem dX7_lie_12 : decode cX7_lie 12 = .ok (.iload_n 1, 1) := by decide +kernel
theorem dX7_lie_13 : decode cX7_lie 13 = .ok (.iaload, 1) := by decide +kernel
theorem dX7_lie_14 : decode cX7_lie 14 = .ok (.iconst 4, 1) := by decide +kernel
theorem dX7_lie_15 : decode cX7_lie 15 = .ok (.if_icmp .ne 37, 3) := by decide +kernel
theorem dX7_lie_18 : decode cX7_lie 18 = .ok (.lload 4, 2) := by decide +kernel
theorem dX7_lie_20 : decode cX7_lie 20 = .ok (.lload_n 2, 1) := by decide +kernel
theorem dX7_lie_21 : decode cX7_lie 21 = .ok (.lcmp, 1) := by decide +kernel
theorem dX7_lie_22 : decode cX7_lie 22 = .ok (.ifCond .lt 30, 3) := by decide +kernel
theorem dX7_lie_25 : decode cX7_lie 25 = .ok (.lload_n 2, 1) := by decide +kernel
theorem dX7_lie_26 : decode cX7_lie 26 = .ok (.ldc2_w 169, 3) := by decide +kernel
theorem dX7_lie_29 : decode cX7_lie 29 = .ok (.ldc2_w 171, 3) := by decide +kernel
theorem dX7_lie_32 : decode cX7_lie 32 = .ok (.invokestatic 143, 3) := by decide +kernel
theorem dX7_lie_35 : decode cX7_lie 35 = .ok (.ifCond .eq 17, 3) := by decide +kernel
theorem dX7_lie_38 : decode cX7_lie 38 = .ok (.lload 4, 2) := by decide +kernel
theorem dX7_lie_40 : decode cX7_lie 40 = .ok (.ldc2_w 169, 3) := by decide +kernel
theorem dX7_lie_43 : decode cX7_lie 43 = .ok (.ldc2_w 171, 3) := by decide +kernel
theorem dX7_lie_46 : decode cX7_lie 46 = .ok (.invokestatic 143, 3) := by decide +kernel
theorem dX7_lie_49 : decode cX7_lie 49 = .ok (.ifCond .ne 7, 3) := by decide +kernel
theorem dX7_lie_52 : decode cX7_lie 52 = .ok (.ldc2_w 155, 3) := by decide +kernel
theorem dX7_lie_55 : decode cX7_lie 55 = .ok (.lreturn, 1) := by decide +kernel
theorem dX7_lie_56 : decode cX7_lie 56 = .ok (.aload_n 0, 1) := by decide +kernel
theorem dX7_lie_57 : decode cX7_lie 57 = .ok (.getfield 38, 3) := by decide +kernel
theorem dX7_lie_60 : decode cX7_lie 60 = .ok (.iload_n 1, 1) := by decide +kernel
theorem dX7_lie_61 : decode cX7_lie 61 = .ok (.lload_n 2, 1) := by decide +kernel
theorem dX7_lie_62 : decode cX7_lie 62 = .ok (.lastore, 1) := by decide +kernel
theorem dX7_lie_63 : decode cX7_lie 63 = .ok (.aload_n 0, 1) := by decide +kernel
theorem dX7_lie_64 : decode cX7_lie 64 = .ok (.getfield 41, 3) := by decide +kernel
theorem dX7_lie_67 : decode cX7_lie 67 = .ok (.iload_n 1, 1) := by decide +kernel
theorem dX7_lie_68 : decode cX7_lie 68 = .ok (.lload 4, 2) := by decide +kernel
theorem dX7_lie_70 : decode cX7_lie 70 = .ok (.lastore, 1) := by decide +kernel
theorem dX7_lie_71 : decode cX7_lie 71 = .ok (.lconst 1, 1) := by decide +kernel
theorem dX7_lie_72 : decode cX7_lie 72 = .ok (.lreturn, 1) := by decide +kernel
theorem dX7_rest_0 : decode cX7_rest 0 = .ok (.aload_n 0, 1) := by decide +kernel
theorem dX7_rest_1 : decode cX7_rest 1 = .ok (.iload_n 1, 1) := by decide +kernel
theorem dX7_rest_2 : decode cX7_rest 2 = .ok (.invokevirtual 163, 3) := by decide +kernel
theorem dX7_rest_5 : decode cX7_rest 5 = .ok (.ifCond .eq 12, 3) := by decide +kernel
theorem dX7_rest_8 : decode cX7_rest 8 = .ok (.aload_n 0, 1) := by decide +kernel
theorem dX7_rest_9 : decode cX7_rest 9 = .ok (.getfield 7, 3) := by decide +kernel
theorem dX7_rest_12 : decode cX7_rest 12 = .ok (.iload_n 1, 1) := by decide +kernel
theorem dX7_rest_13 : decode cX7_rest 13 = .ok (.iaload, 1) := by decide +kernel
theorem dX7_rest_14 : decode cX7_rest 14 = .ok (.ifCond .ne 7, 3) := by decide +kernel
theorem dX7_rest_17 : decode cX7_rest 17 = .ok (.ldc2_w 155, 3) := by decide +kernel
theorem dX7_rest_20 : decode cX7_rest 20 = .ok (.lreturn, 1) := by decide +kernel
theorem dX7_rest_21 : decode cX7_rest 21 = .ok (.aload_n 0, 1) := by decide +kernel
theorem dX7_rest_22 : decode cX7_rest 22 = .ok (.getfield 44, 3) := by decide +kernel
theorem dX7_rest_25 : decode cX7_rest 25 = .ok (.iload_n 1, 1) := by decide +kernel
theorem dX7_rest_26 : decode cX7_rest 26 = .ok (.baload, 1) := by decide +kernel
theorem dX7_rest_27 : decode cX7_rest 27 = .ok (.istore_n 3, 1) := by decide +kernel
theorem dX7_rest_28 : decode cX7_rest 28 = .ok (.aload_n 0, 1) := by decide +kernel
theorem dX7_rest_29 : decode cX7_rest 29 = .ok (.getfield 44, 3) := by decide +kernel
theorem dX7_rest_32 : decode cX7_rest 32 = .ok (.iload_n 1, 1) := by decide +kernel
theorem dX7_rest_33 : decode cX7_rest 33 = .ok (.iload_n 2, 1) := by decide +kernel
theorem dX7_rest_34 : decode cX7_rest 34 = .ok (.bastore, 1) := by decide +kernel
theorem dX7_rest_35 : decode cX7_rest 35 = .ok (.iload_n 3, 1) := by decide +kernel
theorem dX7_rest_36 : decode cX7_rest 36 = .ok (.ifCond .eq 7, 3) := by decide +kernel
theorem dX7_rest_39 : decode cX7_rest 39 = .ok (.lconst 1, 1) := by decide +kernel
theorem dX7_rest_40 : decode cX7_rest 40 = .ok (.goto 4, 3) := by decide +kernel
theorem dX7_rest_43 : decode cX7_rest 43 = .ok (.lconst 0, 1) := by decide +kernel
theorem dX7_rest_44 : decode cX7_rest 44 = .ok (.lreturn, 1) := by decide +kernel
theorem dX7_counterOf_0 : decode cX7_counterOf 0 = .ok (.aload_n 0, 1) := by decide +kernel
theorem dX7_counterOf_1 : decode cX7_counterOf 1 = .ok (.getfield 149, 3) := by decide +kernel
theorem dX7_counterOf_4 : decode cX7_counterOf 4 = .ok (.aload_n 0, 1) := by decide +kernel
theorem dX7_counterOf_5 : decode cX7_counterOf 5 = .ok (.getfield 20, 3) := by decide +kernel
theorem dX7_counterOf_8 : decode cX7_counterOf 8 = .ok (.iload_n 1, 1) := by decide +kernel
theorem dX7_counterOf_9 : decode cX7_counterOf 9 = .ok (.laload, 1) := by decide +kernel
theorem dX7_counterOf_10 : decode cX7_counterOf 10 = .ok (.lsub, 1) := by decide +kernel
theorem dX7_counterOf_11 : decode cX7_counterOf 11 = .ok (.aload_n 0, 1) := by decide +kernel
theorem dX7_counterOf_12 : decode cX7_counterOf 12 = .ok (.getfield 23, 3) := by decide +kernel
theorem dX7_counterOf_15 : decode cX7_counterOf 15 = .ok (.iload_n 1, 1) := by decide +kernel
theorem dX7_counterOf_16 : decode cX7_counterOf 16 = .ok (.laload, 1) := by decide +kernel
theorem dX7_counterOf_17 : decode cX7_counterOf 17 = .ok (.lmul, 1) := by decide +kernel
theorem dX7_counterOf_18 : decode cX7_counterOf 18 = .ok (.aload_n 0, 1) := by decide +kernel
theorem dX7_counterOf_19 : decode cX7_counterOf 19 = .ok (.getfield 26, 3) := by decide +kernel
theorem dX7_counterOf_22 : decode cX7_counterOf 22 = .ok (.iload_n 1, 1) := by decide +kernel
theorem dX7_counterOf_23 : decode cX7_counterOf 23 = .ok (.laload, 1) := by decide +kernel
theorem dX7_counterOf_24 : decode cX7_counterOf 24 = .ok (.invokestatic 135, 3) := by decide +kernel
theorem dX7_counterOf_27 : decode cX7_counterOf 27 = .ok (.lreturn, 1) := by decide +kernel
theorem dX7_counter_0 : decode cX7_counter 0 = .ok (.aload_n 0, 1) := by decide +kernel
theorem dX7_counter_1 : decode cX7_counter 1 = .ok (.iload_n 1, 1) := by decide +kernel
theorem dX7_counter_2 : decode cX7_counter 2 = .ok (.invokevirtual 163, 3) := by decide +kernel
theorem dX7_counter_5 : decode cX7_counter 5 = .ok (.ifCond .eq 11, 3) := by decide +kernel
theorem dX7_counter_8 : decode cX7_counter 8 = .ok (.aload_n 0, 1) := by decide +kernel
theorem dX7_counter_9 : decode cX7_counter 9 = .ok (.iload_n 1, 1) := by decide +kernel
theorem dX7_counter_10 : decode cX7_counter 10 = .ok (.invokevirtual 173, 3) := by decide +kernel
theorem dX7_counter_13 : decode cX7_counter 13 = .ok (.goto 6, 3) := by decide +kernel
theorem dX7_counter_16 : decode cX7_counter 16 = .ok (.ldc2_w 155, 3) := by decide +kernel
theorem dX7_counter_19 : decode cX7_counter 19 = .ok (.lreturn, 1) := by decide +kernel
theorem dX7_atLeast_0 : decode cX7_atLeast 0 = .ok (.lload_n 2, 1) := by decide +kernel
theorem dX7_atLeast_1 : decode cX7_atLeast 1 = .ok (.lconst 1, 1) := by decide +kernel
theorem dX7_atLeast_2 : decode cX7_atLeast 2 = .ok (.lsub, 1) := by decide +kernel
theorem dX7_atLeast_3 : decode cX7_atLeast 3 = .ok (.ldc2_w 167, 3) := by decide +kernel
theorem dX7_atLeast_6 : decode cX7_atLeast 6 = .ok (.lmul, 1) := by decide +kernel
theorem dX7_atLeast_7 : decode cX7_atLeast 7 = .ok (.ldc2_w 167, 3) := by decide +kernel
theorem dX7_atLeast_10 : decode cX7_atLeast 10 = .ok (.aload_n 0, 1) := by decide +kernel
theorem dX7_atLeast_11 : decode cX7_atLeast 11 = .ok (.getfield 13, 3) := by decide +kernel
theorem dX7_atLeast_14 : decode cX7_atLeast 14 = .ok (.iload_n 1, 1) := by decide +kernel
theorem dX7_atLeast_15 : decode cX7_atLeast 15 = .ok (.laload, 1) := by decide +kernel
theorem dX7_atLeast_16 : decode cX7_atLeast 16 = .ok (.ladd, 1) := by decide +kernel
theorem dX7_atLeast_17 : decode cX7_atLeast 17 = .ok (.invokestatic 135, 3) := by decide +kernel
theorem dX7_atLeast_20 : decode cX7_atLeast 20 = .ok (.lconst 1, 1) := by decide +kernel
theorem dX7_atLeast_21 : decode cX7_atLeast 21 = .ok (.ladd, 1) := by decide +kernel
theorem dX7_atLeast_22 : decode cX7_atLeast 22 = .ok (.lreturn, 1) := by decide +kernel
theorem dX7_atMost_0 : decode cX7_atMost 0 = .ok (.lload_n 2, 1) := by decide +kernel
theorem dX7_atMost_1 : decode cX7_atMost 1 = .ok (.lconst 1, 1) := by decide +kernel
theorem dX7_atMost_2 : decode cX7_atMost 2 = .ok (.ladd, 1) := by decide +kernel
theorem dX7_atMost_3 : decode cX7_atMost 3 = .ok (.ldc2_w 167, 3) := by decide +kernel
theorem dX7_atMost_6 : decode cX7_atMost 6 = .ok (.lmul, 1) := by decide +kernel
theorem dX7_atMost_7 : decode cX7_atMost 7 = .ok (.ldc2_w 167, 3) := by decide +kernel
theorem dX7_atMost_10 : decode cX7_atMost 10 = .ok (.aload_n 0, 1) := by decide +kernel
theorem dX7_atMost_11 : decode cX7_atMost 11 = .ok (.getfield 13, 3) := by decide +kernel
theorem dX7_atMost_14 : decode cX7_atMost 14 = .ok (.iload_n 1, 1) := by decide +kernel
theorem dX7_atMost_15 : decode cX7_atMost 15 = .ok (.laload, 1) := by decide +kernel
theorem dX7_atMost_16 : decode cX7_atMost 16 = .ok (.lsub, 1) := by decide +kernel
theorem dX7_atMost_17 : decode cX7_atMost 17 = .ok (.invokestatic 177, 3) := by decide +kernel
theorem dX7_atMost_20 : decode cX7_atMost 20 = .ok (.lconst 1, 1) := by decide +kernel
theorem dX7_atMost_21 : decode cX7_atMost 21 = .ok (.lsub, 1) := by decide +kernel
theorem dX7_atMost_22 : decode cX7_atMost 22 = .ok (.lreturn, 1) := by decide +kernel
theorem dX7_lowOf_0 : decode cX7_lowOf 0 = .ok (.aload_n 0, 1) := by decide +kernel
theorem dX7_lowOf_1 : decode cX7_lowOf 1 = .ok (.getfield 7, 3) := by decide +kernel
theorem dX7_lowOf_4 : decode cX7_lowOf 4 = .ok (.iload_n 1, 1) := by decide +kernel
theorem dX7_lowOf_5 : decode cX7_lowOf 5 = .ok (.iaload, 1) := by decide +kernel
theorem dX7_lowOf_6 : decode cX7_lowOf 6 = .ok (.iconst 3, 1) := by decide +kernel
theorem dX7_lowOf_7 : decode cX7_lowOf 7 = .ok (.if_icmp .ne 17, 3) := by decide +kernel
theorem dX7_lowOf_10 : decode cX7_lowOf 10 = .ok (.aload_n 0, 1) := by decide +kernel
theorem dX7_lowOf_11 : decode cX7_lowOf 11 = .ok (.getfield 149, 3) := by decide +kernel
theorem dX7_lowOf_14 : decode cX7_lowOf 14 = .ok (.aload_n 0, 1) := by decide +kernel
theorem dX7_lowOf_15 : decode cX7_lowOf 15 = .ok (.getfield 17, 3) := by decide +kernel
theorem dX7_lowOf_18 : decode cX7_lowOf 18 = .ok (.iload_n 1, 1) := by decide +kernel
theorem dX7_lowOf_19 : decode cX7_lowOf 19 = .ok (.laload, 1) := by decide +kernel
theorem dX7_lowOf_20 : decode cX7_lowOf 20 = .ok (.lsub, 1) := by decide +kernel
theorem dX7_lowOf_21 : decode cX7_lowOf 21 = .ok (.goto 27, 3) := by decide +kernel
theorem dX7_lowOf_24 : decode cX7_lowOf 24 = .ok (.aload_n 0, 1) := by decide +kernel
theorem dX7_lowOf_25 : decode cX7_lowOf 25 = .ok (.getfield 29, 3) := by decide +kernel
theorem dX7_lowOf_28 : decode cX7_lowOf 28 = .ok (.iload_n 1, 1) := by decide +kernel
theorem dX7_lowOf_29 : decode cX7_lowOf 29 = .ok (.laload, 1) := by decide +kernel
theorem dX7_lowOf_30 : decode cX7_lowOf 30 = .ok (.aload_n 0, 1) := by decide +kernel
theorem dX7_lowOf_31 : decode cX7_lowOf 31 = .ok (.iload_n 1, 1) := by decide +kernel
theorem dX7_lowOf_32 : decode cX7_lowOf 32 = .ok (.aload_n 0, 1) := by decide +kernel
theorem dX7_lowOf_33 : decode cX7_lowOf 33 = .ok (.iload_n 1, 1) := by decide +kernel
theorem dX7_lowOf_34 : decode cX7_lowOf 34 = .ok (.invokevirtual 173, 3) := by decide +kernel
theorem dX7_lowOf_37 : decode cX7_lowOf 37 = .ok (.aload_n 0, 1) := by decide +kernel
theorem dX7_lowOf_38 : decode cX7_lowOf 38 = .ok (.getfield 35, 3) := by decide +kernel
theorem dX7_lowOf_41 : decode cX7_lowOf 41 = .ok (.iload_n 1, 1) := by decide +kernel
theorem dX7_lowOf_42 : decode cX7_lowOf 42 = .ok (.laload, 1) := by decide +kernel
theorem dX7_lowOf_43 : decode cX7_lowOf 43 = .ok (.lsub, 1) := by decide +kernel
theorem dX7_lowOf_44 : decode cX7_lowOf 44 = .ok (.invokevirtual 180, 3) := by decide +kernel
theorem dX7_lowOf_47 : decode cX7_lowOf 47 = .ok (.ladd, 1) := by decide +kernel
theorem dX7_lowOf_48 : decode cX7_lowOf 48 = .ok (.lreturn, 1) := by decide +kernel
theorem dX7_highOf_0 : decode cX7_highOf 0 = .ok (.aload_n 0, 1) := by decide +kernel
theorem dX7_highOf_1 : decode cX7_highOf 1 = .ok (.getfield 7, 3) := by decide +kernel
theorem dX7_highOf_4 : decode cX7_highOf 4 = .ok (.iload_n 1, 1) := by decide +kernel
theorem dX7_highOf_5 : decode cX7_highOf 5 = .ok (.iaload, 1) := by decide +kernel
theorem dX7_highOf_6 : decode cX7_highOf 6 = .ok (.iconst 3, 1) := by decide +kernel
theorem dX7_highOf_7 : decode cX7_highOf 7 = .ok (.if_icmp .ne 17, 3) := by decide +kernel
theorem dX7_highOf_10 : decode cX7_highOf 10 = .ok (.aload_n 0, 1) := by decide +kernel
theorem dX7_highOf_11 : decode cX7_highOf 11 = .ok (.getfield 149, 3) := by decide +kernel
theorem dX7_highOf_14 : decode cX7_highOf 14 = .ok (.aload_n 0, 1) := by decide +kernel
theorem dX7_highOf_15 : decode cX7_highOf 15 = .ok (.getfield 17, 3) := by decide +kernel
theorem dX7_highOf_18 : decode cX7_highOf 18 = .ok (.iload_n 1, 1) := by decide +kernel
theorem dX7_highOf_19 : decode cX7_highOf 19 = .ok (.laload, 1) := by decide +kernel
theorem dX7_highOf_20 : decode cX7_highOf 20 = .ok (.ladd, 1) := by decide +kernel
theorem dX7_highOf_21 : decode cX7_highOf 21 = .ok (.goto 27, 3) := by decide +kernel
theorem dX7_highOf_24 : decode cX7_highOf 24 = .ok (.aload_n 0, 1) := by decide +kernel
theorem dX7_highOf_25 : decode cX7_highOf 25 = .ok (.getfield 32, 3) := by decide +kernel
theorem dX7_highOf_28 : decode cX7_highOf 28 = .ok (.iload_n 1, 1) := by decide +kernel
theorem dX7_highOf_29 : decode cX7_highOf 29 = .ok (.laload, 1) := by decide +kernel
theorem dX7_highOf_30 : decode cX7_highOf 30 = .ok (.aload_n 0, 1) := by decide +kernel
theorem dX7_highOf_31 : decode cX7_highOf 31 = .ok (.iload_n 1, 1) := by decide +kernel
theorem dX7_highOf_32 : decode cX7_highOf 32 = .ok (.aload_n 0, 1) := by decide +kernel
theorem dX7_highOf_33 : decode cX7_highOf 33 = .ok (.iload_n 1, 1) := by decide +kernel
theorem dX7_highOf_34 : decode cX7_highOf 34 = .ok (.invokevirtual 173, 3) := by decide +kernel
theorem dX7_highOf_37 : decode cX7_highOf 37 = .ok (.aload_n 0, 1) := by decide +kernel
theorem dX7_highOf_38 : decode cX7_highOf 38 = .ok (.getfield 35, 3) := by decide +kernel
theorem dX7_highOf_41 : decode cX7_highOf 41 = .ok (.iload_n 1, 1) := by decide +kernel
theorem dX7_highOf_42 : decode cX7_highOf 42 = .ok (.laload, 1) := by decide +kernel
theorem dX7_highOf_43 : decode cX7_highOf 43 = .ok (.lsub, 1) := by decide +kernel
theorem dX7_highOf_44 : decode cX7_highOf 44 = .ok (.invokevirtual 184, 3) := by decide +kernel
theorem dX7_highOf_47 : decode cX7_highOf 47 = .ok (.ladd, 1) := by decide +kernel
theorem dX7_highOf_48 : decode cX7_highOf 48 = .ok (.lreturn, 1) := by decide +kernel
theorem dX7_heardLowOf_0 : decode cX7_heardLowOf 0 = .ok (.aload_n 0, 1) := by decide +kernel
theorem dX7_heardLowOf_1 : decode cX7_heardLowOf 1 = .ok (.getfield 63, 3) := by decide +kernel
theorem dX7_heardLowOf_4 : decode cX7_heardLowOf 4 = .ok (.bipush 10, 2) := by decide +kernel
theorem dX7_heardLowOf_6 : decode cX7_heardLowOf 6 = .ok (.iload_n 1, 1) := by decide +kernel
theorem dX7_heardLowOf_7 : decode cX7_heardLowOf 7 = .ok (.imul, 1) := by decide +kernel
theorem dX7_heardLowOf_8 : decode cX7_heardLowOf 8 = .ok (.iload_n 2, 1) := by decide +kernel
theorem dX7_heardLowOf_9 : decode cX7_heardLowOf 9 = .ok (.iadd, 1) := by decide +kernel
theorem dX7_heardLowOf_10 : decode cX7_heardLowOf 10 = .ok (.laload, 1) := by decide +kernel
theorem dX7_heardLowOf_11 : decode cX7_heardLowOf 11 = .ok (.aload_n 0, 1) := by decide +kernel
theorem dX7_heardLowOf_12 : decode cX7_heardLowOf 12 = .ok (.iload_n 1, 1) := by decide +kernel
theorem dX7_heardLowOf_13 : decode cX7_heardLowOf 13 = .ok (.aload_n 0, 1) := by decide +kernel
theorem dX7_heardLowOf_14 : decode cX7_heardLowOf 14 = .ok (.iload_n 1, 1) := by decide +kernel
theorem dX7_heardLowOf_15 : decode cX7_heardLowOf 15 = .ok (.invokevirtual 173, 3) := by decide +kernel
theorem dX7_heardLowOf_18 : decode cX7_heardLowOf 18 = .ok (.aload_n 0, 1) := by decide +kernel
theorem dX7_heardLowOf_19 : decode cX7_heardLowOf 19 = .ok (.getfield 69, 3) := by decide +kernel
theorem dX7_heardLowOf_22 : decode cX7_heardLowOf 22 = .ok (.bipush 10, 2) := by decide +kernel
theorem dX7_heardLowOf_24 : decode cX7_heardLowOf 24 = .ok (.iload_n 1, 1) := by decide +kernel
theorem dX7_heardLowOf_25 : decode cX7_heardLowOf 25 = .ok (.imul, 1) := by decide +kernel
theorem dX7_heardLowOf_26 : decode cX7_heardLowOf 26 = .ok (.iload_n 2, 1) := by decide +kernel
theorem dX7_heardLowOf_27 : decode cX7_heardLowOf 27 = .ok (.iadd, 1) := by decide +kernel
theorem dX7_heardLowOf_28 : decode cX7_heardLowOf 28 = .ok (.laload, 1) := by decide +kernel
theorem dX7_heardLowOf_29 : decode cX7_heardLowOf 29 = .ok (.lsub, 1) := by decide +kernel
theorem dX7_heardLowOf_30 : decode cX7_heardLowOf 30 = .ok (.invokevirtual 180, 3) := by decide +kernel
theorem dX7_heardLowOf_33 : decode cX7_heardLowOf 33 = .ok (.ladd, 1) := by decide +kernel
theorem dX7_heardLowOf_34 : decode cX7_heardLowOf 34 = .ok (.lreturn, 1) := by decide +kernel
theorem dX7_heardHighOf_0 : decode cX7_heardHighOf 0 = .ok (.aload_n 0, 1) := by decide +kernel
theorem dX7_heardHighOf_1 : decode cX7_heardHighOf 1 = .ok (.getfield 66, 3) := by decide +kernel
theorem dX7_heardHighOf_4 : decode cX7_heardHighOf 4 = .ok (.bipush 10, 2) := by decide +kernel
theorem dX7_heardHighOf_6 : decode cX7_heardHighOf 6 = .ok (.iload_n 1, 1) := by decide +kernel
theorem dX7_heardHighOf_7 : decode cX7_heardHighOf 7 = .ok (.imul, 1) := by decide +kernel
theorem dX7_heardHighOf_8 : decode cX7_heardHighOf 8 = .ok (.iload_n 2, 1) := by decide +kernel
theorem dX7_heardHighOf_9 : decode cX7_heardHighOf 9 = .ok (.iadd, 1) := by decide +kernel
theorem dX7_heardHighOf_10 : decode cX7_heardHighOf 10 = .ok (.laload, 1) := by decide +kernel
theorem dX7_heardHighOf_11 : decode cX7_heardHighOf 11 = .ok (.aload_n 0, 1) := by decide +kernel
theorem dX7_heardHighOf_12 : decode cX7_heardHighOf 12 = .ok (.iload_n 1, 1) := by decide +kernel
theorem dX7_heardHighOf_13 : decode cX7_heardHighOf 13 = .ok (.aload_n 0, 1) := by decide +kernel
theorem dX7_heardHighOf_14 : decode cX7_heardHighOf 14 = .ok (.iload_n 1, 1) := by decide +kernel
theorem dX7_heardHighOf_15 : decode cX7_heardHighOf 15 = .ok (.invokevirtual 173, 3) := by decide +kernel
theorem dX7_heardHighOf_18 : decode cX7_heardHighOf 18 = .ok (.aload_n 0, 1) := by decide +kernel
theorem dX7_heardHighOf_19 : decode cX7_heardHighOf 19 = .ok (.getfield 69, 3) := by decide +kernel
theorem dX7_heardHighOf_22 : decode cX7_heardHighOf 22 = .ok (.bipush 10, 2) := by decide +kernel
theorem dX7_heardHighOf_24 : decode cX7_heardHighOf 24 = .ok (.iload_n 1, 1) := by decide +kernel
theorem dX7_heardHighOf_25 : decode cX7_heardHighOf 25 = .ok (.imul, 1) := by decide +kernel
theorem dX7_heardHighOf_26 : decode cX7_heardHighOf 26 = .ok (.iload_n 2, 1) := by decide +kernel
theorem dX7_heardHighOf_27 : decode cX7_heardHighOf 27 = .ok (.iadd, 1) := by decide +kernel
theorem dX7_heardHighOf_28 : decode cX7_heardHighOf 28 = .ok (.laload, 1) := by decide +kernel
theorem dX7_heardHighOf_29 : decode cX7_heardHighOf 29 = .ok (.lsub, 1) := by decide +kernel
theorem dX7_heardHighOf_30 : decode cX7_heardHighOf 30 = .ok (.invokevirtual 184, 3) := by decide +kernel
theorem dX7_heardHighOf_33 : decode cX7_heardHighOf 33 = .ok (.ladd, 1) := by decide +kernel
theorem dX7_heardHighOf_34 : decode cX7_heardHighOf 34 = .ok (.lreturn, 1) := by decide +kernel
theorem dX7_heardMany_0 : decode cX7_heardMany 0 = .ok (.iconst 0, 1) := by decide +kernel
theorem dX7_heardMany_1 : decode cX7_heardMany 1 = .ok (.istore_n 2, 1) := by decide +kernel
theorem dX7_heardMany_2 : decode cX7_heardMany 2 = .ok (.iconst 0, 1) := by decide +kernel
theorem dX7_heardMany_3 : decode cX7_heardMany 3 = .ok (.istore_n 3, 1) := by decide +kernel
theorem dX7_heardMany_4 : decode cX7_heardMany 4 = .ok (.iload_n 3, 1) := by decide +kernel
theorem dX7_heardMany_5 : decode cX7_heardMany 5 = .ok (.aload_n 0, 1) := by decide +kernel
theorem dX7_heardMany_6 : decode cX7_heardMany 6 = .ok (.getfield 139, 3) := by decide +kernel
theorem dX7_heardMany_9 : decode cX7_heardMany 9 = .ok (.if_icmp .ge 31, 3) := by decide +kernel
theorem dX7_heardMany_12 : decode cX7_heardMany 12 = .ok (.iload_n 2, 1) := by decide +kernel
theorem dX7_heardMany_13 : decode cX7_heardMany 13 = .ok (.aload_n 0, 1) := by decide +kernel
theorem dX7_heardMany_14 : decode cX7_heardMany 14 = .ok (.getfield 60, 3) := by decide +kernel
theorem dX7_heardMany_17 : decode cX7_heardMany 17 = .ok (.bipush 10, 2) := by decide +kernel
theorem dX7_heardMany_19 : decode cX7_heardMany 19 = .ok (.iload_n 1, 1) := by decide +kernel
theorem dX7_heardMany_20 : decode cX7_heardMany 20 = .ok (.imul, 1) := by decide +kernel
theorem dX7_heardMany_21 : decode cX7_heardMany 21 = .ok (.iload_n 3, 1) := by decide +kernel
theorem dX7_heardMany_22 : decode cX7_heardMany 22 = .ok (.iadd, 1) := by decide +kernel
theorem dX7_heardMany_23 : decode cX7_heardMany 23 = .ok (.baload, 1) := by decide +kernel
theorem dX7_heardMany_24 : decode cX7_heardMany 24 = .ok (.ifCond .eq 7, 3) := by decide +kernel
theorem dX7_heardMany_27 : decode cX7_heardMany 27 = .ok (.iconst 1, 1) := by decide +kernel
theorem dX7_heardMany_28 : decode cX7_heardMany 28 = .ok (.goto 4, 3) := by decide +kernel
theorem dX7_heardMany_31 : decode cX7_heardMany 31 = .ok (.iconst 0, 1) := by decide +kernel
theorem dX7_heardMany_32 : decode cX7_heardMany 32 = .ok (.iadd, 1) := by decide +kernel
theorem dX7_heardMany_33 : decode cX7_heardMany 33 = .ok (.istore_n 2, 1) := by decide +kernel
theorem dX7_heardMany_34 : decode cX7_heardMany 34 = .ok (.iinc 3 1, 3) := by decide +kernel
theorem dX7_heardMany_37 : decode cX7_heardMany 37 = .ok (.goto (-33), 3) := by decide +kernel
theorem dX7_heardMany_40 : decode cX7_heardMany 40 = .ok (.iload_n 2, 1) := by decide +kernel
theorem dX7_heardMany_41 : decode cX7_heardMany 41 = .ok (.ireturn, 1) := by decide +kernel
theorem dX7_of_0 : decode cX7_of 0 = .ok (.aload_n 0, 1) := by decide +kernel
theorem dX7_of_1 : decode cX7_of 1 = .ok (.iload_n 1, 1) := by decide +kernel
theorem dX7_of_2 : decode cX7_of 2 = .ok (.invokevirtual 163, 3) := by decide +kernel
theorem dX7_of_5 : decode cX7_of 5 = .ok (.ifCond .ne 7, 3) := by decide +kernel
theorem dX7_of_8 : decode cX7_of 8 = .ok (.ldc2_w 155, 3) := by decide +kernel
theorem dX7_of_11 : decode cX7_of 11 = .ok (.lreturn, 1) := by decide +kernel
theorem dX7_of_12 : decode cX7_of 12 = .ok (.iload_n 2, 1) := by decide +kernel
theorem dX7_of_13 : decode cX7_of 13 = .ok (.tableswitch 142 0 8 #[51, 57, 63, 71, 86, 93, 119, 127, 135], 51) := by decide +kernel
theorem dX7_of_64 : decode cX7_of 64 = .ok (.aload_n 0, 1) := by decide +kernel
theorem dX7_of_65 : decode cX7_of 65 = .ok (.iload_n 1, 1) := by decide +kernel
theorem dX7_of_66 : decode cX7_of 66 = .ok (.invokevirtual 187, 3) := by decide +kernel
theorem dX7_of_69 : decode cX7_of 69 = .ok (.lreturn, 1) := by decide +kernel
theorem dX7_of_70 : decode cX7_of 70 = .ok (.aload_n 0, 1) := by decide +kernel
theorem dX7_of_71 : decode cX7_of 71 = .ok (.iload_n 1, 1) := by decide +kernel
theorem dX7_of_72 : decode cX7_of 72 = .ok (.invokevirtual 190, 3) := by decide +kernel
theorem dX7_of_75 : decode cX7_of 75 = .ok (.lreturn, 1) := by decide +kernel
theorem dX7_of_76 : decode cX7_of 76 = .ok (.aload_n 0, 1) := by decide +kernel
theorem dX7_of_77 : decode cX7_of 77 = .ok (.getfield 7, 3) := by decide +kernel
theorem dX7_of_80 : decode cX7_of 80 = .ok (.iload_n 1, 1) := by decide +kernel
theorem dX7_of_81 : decode cX7_of 81 = .ok (.iaload, 1) := by decide +kernel
theorem dX7_of_82 : decode cX7_of 82 = .ok (.i2l, 1) := by decide +kernel
theorem dX7_of_83 : decode cX7_of 83 = .ok (.lreturn, 1) := by decide +kernel
theorem dX7_of_84 : decode cX7_of 84 = .ok (.aload_n 0, 1) := by decide +kernel
theorem dX7_of_85 : decode cX7_of 85 = .ok (.getfield 44, 3) := by decide +kernel
theorem dX7_of_88 : decode cX7_of 88 = .ok (.iload_n 1, 1) := by decide +kernel
theorem dX7_of_89 : decode cX7_of 89 = .ok (.baload, 1) := by decide +kernel
theorem dX7_of_90 : decode cX7_of 90 = .ok (.ifCond .eq 7, 3) := by decide +kernel
theorem dX7_of_93 : decode cX7_of 93 = .ok (.lconst 1, 1) := by decide +kernel
theorem dX7_of_94 : decode cX7_of 94 = .ok (.goto 4, 3) := by decide +kernel
theorem dX7_of_97 : decode cX7_of 97 = .ok (.lconst 0, 1) := by decide +kernel
theorem dX7_of_98 : decode cX7_of 98 = .ok (.lreturn, 1) := by decide +kernel
theorem dX7_of_99 : decode cX7_of 99 = .ok (.aload_n 0, 1) := by decide +kernel
theorem dX7_of_100 : decode cX7_of 100 = .ok (.getfield 48, 3) := by decide +kernel
theorem dX7_of_103 : decode cX7_of 103 = .ok (.iload_n 1, 1) := by decide +kernel
theorem dX7_of_104 : decode cX7_of 104 = .ok (.laload, 1) := by decide +kernel
theorem dX7_of_105 : decode cX7_of 105 = .ok (.lreturn, 1) := by decide +kernel
theorem dX7_of_106 : decode cX7_of 106 = .ok (.aload_n 0, 1) := by decide +kernel
theorem dX7_of_107 : decode cX7_of 107 = .ok (.getfield 149, 3) := by decide +kernel
theorem dX7_of_110 : decode cX7_of 110 = .ok (.aload_n 0, 1) := by decide +kernel
theorem dX7_of_111 : decode cX7_of 111 = .ok (.iload_n 1, 1) := by decide +kernel
theorem dX7_of_112 : decode cX7_of 112 = .ok (.invokevirtual 187, 3) := by decide +kernel
theorem dX7_of_115 : decode cX7_of 115 = .ok (.aload_n 0, 1) := by decide +kernel
theorem dX7_of_116 : decode cX7_of 116 = .ok (.iload_n 1, 1) := by decide +kernel
theorem dX7_of_117 : decode cX7_of 117 = .ok (.invokevirtual 190, 3) := by decide +kernel
theorem dX7_of_120 : decode cX7_of 120 = .ok (.invokestatic 143, 3) := by decide +kernel
theorem dX7_of_123 : decode cX7_of 123 = .ok (.ifCond .eq 7, 3) := by decide +kernel
theorem dX7_of_126 : decode cX7_of 126 = .ok (.lconst 1, 1) := by decide +kernel
theorem dX7_of_127 : decode cX7_of 127 = .ok (.goto 4, 3) := by decide +kernel
theorem dX7_of_130 : decode cX7_of 130 = .ok (.lconst 0, 1) := by decide +kernel
theorem dX7_of_131 : decode cX7_of 131 = .ok (.lreturn, 1) := by decide +kernel
theorem dX7_of_132 : decode cX7_of 132 = .ok (.aload_n 0, 1) := by decide +kernel
theorem dX7_of_133 : decode cX7_of 133 = .ok (.getfield 54, 3) := by decide +kernel
theorem dX7_of_136 : decode cX7_of 136 = .ok (.iload_n 1, 1) := by decide +kernel
theorem dX7_of_137 : decode cX7_of 137 = .ok (.iaload, 1) := by decide +kernel
theorem dX7_of_138 : decode cX7_of 138 = .ok (.i2l, 1) := by decide +kernel
theorem dX7_of_139 : decode cX7_of 139 = .ok (.lreturn, 1) := by decide +kernel
theorem dX7_of_140 : decode cX7_of 140 = .ok (.aload_n 0, 1) := by decide +kernel
theorem dX7_of_141 : decode cX7_of 141 = .ok (.getfield 57, 3) := by decide +kernel
theorem dX7_of_144 : decode cX7_of 144 = .ok (.iload_n 1, 1) := by decide +kernel
theorem dX7_of_145 : decode cX7_of 145 = .ok (.iaload, 1) := by decide +kernel
theorem dX7_of_146 : decode cX7_of 146 = .ok (.i2l, 1) := by decide +kernel
theorem dX7_of_147 : decode cX7_of 147 = .ok (.lreturn, 1) := by decide +kernel
theorem dX7_of_148 : decode cX7_of 148 = .ok (.aload_n 0, 1) := by decide +kernel
theorem dX7_of_149 : decode cX7_of 149 = .ok (.iload_n 1, 1) := by decide +kernel
theorem dX7_of_150 : decode cX7_of 150 = .ok (.invokevirtual 193, 3) := by decide +kernel
theorem dX7_of_153 : decode cX7_of 153 = .ok (.i2l, 1) := by decide +kernel
theorem dX7_of_154 : decode cX7_of 154 = .ok (.lreturn, 1) := by decide +kernel
theorem dX7_of_155 : decode cX7_of 155 = .ok (.ldc2_w 155, 3) := by decide +kernel
theorem dX7_of_158 : decode cX7_of 158 = .ok (.lreturn, 1) := by decide +kernel
theorem dX7_ask_0 : decode cX7_ask 0 = .ok (.aload_n 0, 1) := by decide +kernel
theorem dX7_ask_1 : decode cX7_ask 1 = .ok (.iload_n 1, 1) := by decide +kernel
theorem dX7_ask_2 : decode cX7_ask 2 = .ok (.invokevirtual 163, 3) := by decide +kernel
theorem dX7_ask_5 : decode cX7_ask 5 = .ok (.ifCond .eq 44, 3) := by decide +kernel
theorem dX7_ask_8 : decode cX7_ask 8 = .ok (.aload_n 0, 1) := by decide +kernel
theorem dX7_ask_9 : decode cX7_ask 9 = .ok (.iload_n 2, 1) := by decide +kernel
theorem dX7_ask_10 : decode cX7_ask 10 = .ok (.invokevirtual 163, 3) := by decide +kernel
theorem dX7_ask_13 : decode cX7_ask 13 = .ok (.ifCond .eq 36, 3) := by decide +kernel
theorem dX7_ask_16 : decode cX7_ask 16 = .ok (.iload_n 1, 1) := by decide +kernel
theorem dX7_ask_17 : decode cX7_ask 17 = .ok (.iload_n 2, 1) := by decide +kernel
theorem dX7_ask_18 : decode cX7_ask 18 = .ok (.if_icmp .eq 31, 3) := by decide +kernel
theorem dX7_ask_21 : decode cX7_ask 21 = .ok (.aload_n 0, 1) := by decide +kernel
theorem dX7_ask_22 : decode cX7_ask 22 = .ok (.getfield 7, 3) := by decide +kernel
theorem dX7_ask_25 : decode cX7_ask 25 = .ok (.iload_n 1, 1) := by decide +kernel
theorem dX7_ask_26 : decode cX7_ask 26 = .ok (.iaload, 1) := by decide +kernel
theorem dX7_ask_27 : decode cX7_ask 27 = .ok (.ifCond .eq 22, 3) := by decide +kernel
theorem dX7_ask_30 : decode cX7_ask 30 = .ok (.aload_n 0, 1) := by decide +kernel
theorem dX7_ask_31 : decode cX7_ask 31 = .ok (.getfield 44, 3) := by decide +kernel
theorem dX7_ask_34 : decode cX7_ask 34 = .ok (.iload_n 1, 1) := by decide +kernel
theorem dX7_ask_35 : decode cX7_ask 35 = .ok (.baload, 1) := by decide +kernel
theorem dX7_ask_36 : decode cX7_ask 36 = .ok (.ifCond .ne 13, 3) := by decide +kernel
theorem dX7_ask_39 : decode cX7_ask 39 = .ok (.aload_n 0, 1) := by decide +kernel
theorem dX7_ask_40 : decode cX7_ask 40 = .ok (.getfield 197, 3) := by decide +kernel
theorem dX7_ask_43 : decode cX7_ask 43 = .ok (.sipush 200, 3) := by decide +kernel
theorem dX7_ask_46 : decode cX7_ask 46 = .ok (.if_icmp .ne 7, 3) := by decide +kernel
theorem dX7_ask_49 : decode cX7_ask 49 = .ok (.ldc2_w 155, 3) := by decide +kernel
theorem dX7_ask_52 : decode cX7_ask 52 = .ok (.lreturn, 1) := by decide +kernel
theorem dX7_ask_53 : decode cX7_ask 53 = .ok (.aload_n 0, 1) := by decide +kernel
theorem dX7_ask_54 : decode cX7_ask 54 = .ok (.getfield 72, 3) := by decide +kernel
theorem dX7_ask_57 : decode cX7_ask 57 = .ok (.aload_n 0, 1) := by decide +kernel
theorem dX7_ask_58 : decode cX7_ask 58 = .ok (.getfield 197, 3) := by decide +kernel
theorem dX7_ask_61 : decode cX7_ask 61 = .ok (.iload_n 1, 1) := by decide +kernel
theorem dX7_ask_62 : decode cX7_ask 62 = .ok (.iastore, 1) := by decide +kernel
theorem dX7_ask_63 : decode cX7_ask 63 = .ok (.aload_n 0, 1) := by decide +kernel
theorem dX7_ask_64 : decode cX7_ask 64 = .ok (.getfield 75, 3) := by decide +kernel
theorem dX7_ask_67 : decode cX7_ask 67 = .ok (.aload_n 0, 1) := by decide +kernel
theorem dX7_ask_68 : decode cX7_ask 68 = .ok (.getfield 197, 3) := by decide +kernel
theorem dX7_ask_71 : decode cX7_ask 71 = .ok (.iload_n 2, 1) := by decide +kernel
theorem dX7_ask_72 : decode cX7_ask 72 = .ok (.iastore, 1) := by decide +kernel
theorem dX7_ask_73 : decode cX7_ask 73 = .ok (.aload_n 0, 1) := by decide +kernel
theorem dX7_ask_74 : decode cX7_ask 74 = .ok (.getfield 78, 3) := by decide +kernel
theorem dX7_ask_77 : decode cX7_ask 77 = .ok (.aload_n 0, 1) := by decide +kernel
theorem dX7_ask_78 : decode cX7_ask 78 = .ok (.getfield 197, 3) := by decide +kernel
theorem dX7_ask_81 : decode cX7_ask 81 = .ok (.iconst 0, 1) := by decide +kernel
theorem dX7_ask_82 : decode cX7_ask 82 = .ok (.iastore, 1) := by decide +kernel
theorem dX7_ask_83 : decode cX7_ask 83 = .ok (.aload_n 0, 1) := by decide +kernel
theorem dX7_ask_84 : decode cX7_ask 84 = .ok (.getfield 81, 3) := by decide +kernel
theorem dX7_ask_87 : decode cX7_ask 87 = .ok (.aload_n 0, 1) := by decide +kernel
theorem dX7_ask_88 : decode cX7_ask 88 = .ok (.getfield 197, 3) := by decide +kernel
theorem dX7_ask_91 : decode cX7_ask 91 = .ok (.aload_n 0, 1) := by decide +kernel
theorem dX7_ask_92 : decode cX7_ask 92 = .ok (.iload_n 1, 1) := by decide +kernel
theorem dX7_ask_93 : decode cX7_ask 93 = .ok (.invokevirtual 173, 3) := by decide +kernel
theorem dX7_ask_96 : decode cX7_ask 96 = .ok (.lastore, 1) := by decide +kernel
theorem dX7_ask_97 : decode cX7_ask 97 = .ok (.aload_n 0, 1) := by decide +kernel
theorem dX7_ask_98 : decode cX7_ask 98 = .ok (.getfield 84, 3) := by decide +kernel
theorem dX7_ask_101 : decode cX7_ask 101 = .ok (.aload_n 0, 1) := by decide +kernel
theorem dX7_ask_102 : decode cX7_ask 102 = .ok (.getfield 197, 3) := by decide +kernel
theorem dX7_ask_105 : decode cX7_ask 105 = .ok (.iconst 0, 1) := by decide +kernel
theorem dX7_ask_106 : decode cX7_ask 106 = .ok (.bastore, 1) := by decide +kernel
theorem dX7_ask_107 : decode cX7_ask 107 = .ok (.aload_n 0, 1) := by decide +kernel
theorem dX7_ask_108 : decode cX7_ask 108 = .ok (.dup, 1) := by decide +kernel
theorem dX7_ask_109 : decode cX7_ask 109 = .ok (.getfield 197, 3) := by decide +kernel
theorem dX7_ask_112 : decode cX7_ask 112 = .ok (.iconst 1, 1) := by decide +kernel
theorem dX7_ask_113 : decode cX7_ask 113 = .ok (.iadd, 1) := by decide +kernel
theorem dX7_ask_114 : decode cX7_ask 114 = .ok (.putfield 197, 3) := by decide +kernel
theorem dX7_ask_117 : decode cX7_ask 117 = .ok (.aload_n 0, 1) := by decide +kernel
theorem dX7_ask_118 : decode cX7_ask 118 = .ok (.getfield 197, 3) := by decide +kernel
theorem dX7_ask_121 : decode cX7_ask 121 = .ok (.iconst 1, 1) := by decide +kernel
theorem dX7_ask_122 : decode cX7_ask 122 = .ok (.isub, 1) := by decide +kernel
theorem dX7_ask_123 : decode cX7_ask 123 = .ok (.i2l, 1) := by decide +kernel
theorem dX7_ask_124 : decode cX7_ask 124 = .ok (.lreturn, 1) := by decide +kernel
theorem dX7_isUnderWay_0 : decode cX7_isUnderWay 0 = .ok (.iload_n 1, 1) := by decide +kernel
theorem dX7_isUnderWay_1 : decode cX7_isUnderWay 1 = .ok (.i2l, 1) := by decide +kernel
theorem dX7_isUnderWay_2 : decode cX7_isUnderWay 2 = .ok (.lconst 0, 1) := by decide +kernel
theorem dX7_isUnderWay_3 : decode cX7_isUnderWay 3 = .ok (.aload_n 0, 1) := by decide +kernel
theorem dX7_isUnderWay_4 : decode cX7_isUnderWay 4 = .ok (.getfield 197, 3) := by decide +kernel
theorem dX7_isUnderWay_7 : decode cX7_isUnderWay 7 = .ok (.i2l, 1) := by decide +kernel
theorem dX7_isUnderWay_8 : decode cX7_isUnderWay 8 = .ok (.lconst 1, 1) := by decide +kernel
theorem dX7_isUnderWay_9 : decode cX7_isUnderWay 9 = .ok (.lsub, 1) := by decide +kernel
theorem dX7_isUnderWay_10 : decode cX7_isUnderWay 10 = .ok (.invokestatic 143, 3) := by decide +kernel
theorem dX7_isUnderWay_13 : decode cX7_isUnderWay 13 = .ok (.ifCond .eq 17, 3) := by decide +kernel
theorem dX7_isUnderWay_16 : decode cX7_isUnderWay 16 = .ok (.aload_n 0, 1) := by decide +kernel
theorem dX7_isUnderWay_17 : decode cX7_isUnderWay 17 = .ok (.getfield 78, 3) := by decide +kernel
theorem dX7_isUnderWay_20 : decode cX7_isUnderWay 20 = .ok (.iload_n 1, 1) := by decide +kernel
theorem dX7_isUnderWay_21 : decode cX7_isUnderWay 21 = .ok (.iaload, 1) := by decide +kernel
theorem dX7_isUnderWay_22 : decode cX7_isUnderWay 22 = .ok (.iconst 2, 1) := by decide +kernel
theorem dX7_isUnderWay_23 : decode cX7_isUnderWay 23 = .ok (.if_icmp .ge 7, 3) := by decide +kernel
theorem dX7_isUnderWay_26 : decode cX7_isUnderWay 26 = .ok (.iconst 1, 1) := by decide +kernel
theorem dX7_isUnderWay_27 : decode cX7_isUnderWay 27 = .ok (.goto 4, 3) := by decide +kernel
theorem dX7_isUnderWay_30 : decode cX7_isUnderWay 30 = .ok (.iconst 0, 1) := by decide +kernel
theorem dX7_isUnderWay_31 : decode cX7_isUnderWay 31 = .ok (.ireturn, 1) := by decide +kernel
theorem dX7_deliver_0 : decode cX7_deliver 0 = .ok (.aload_n 0, 1) := by decide +kernel
theorem dX7_deliver_1 : decode cX7_deliver 1 = .ok (.iload_n 1, 1) := by decide +kernel
theorem dX7_deliver_2 : decode cX7_deliver 2 = .ok (.invokevirtual 200, 3) := by decide +kernel
theorem dX7_deliver_5 : decode cX7_deliver 5 = .ok (.ifCond .ne 7, 3) := by decide +kernel
theorem dX7_deliver_8 : decode cX7_deliver 8 = .ok (.ldc2_w 155, 3) := by decide +kernel
theorem dX7_deliver_11 : decode cX7_deliver 11 = .ok (.lreturn, 1) := by decide +kernel
theorem dX7_deliver_12 : decode cX7_deliver 12 = .ok (.aload_n 0, 1) := by decide +kernel
theorem dX7_deliver_13 : decode cX7_deliver 13 = .ok (.getfield 72, 3) := by decide +kernel
theorem dX7_deliver_16 : decode cX7_deliver 16 = .ok (.iload_n 1, 1) := by decide +kernel
theorem dX7_deliver_17 : decode cX7_deliver 17 = .ok (.iaload, 1) := by decide +kernel
theorem dX7_deliver_18 : decode cX7_deliver 18 = .ok (.istore_n 2, 1) := by decide +kernel
theorem dX7_deliver_19 : decode cX7_deliver 19 = .ok (.aload_n 0, 1) := by decide +kernel
theorem dX7_deliver_20 : decode cX7_deliver 20 = .ok (.getfield 75, 3) := by decide +kernel
theorem dX7_deliver_23 : decode cX7_deliver 23 = .ok (.iload_n 1, 1) := by decide +kernel
theorem dX7_deliver_24 : decode cX7_deliver 24 = .ok (.iaload, 1) := by decide +kernel
theorem dX7_deliver_25 : decode cX7_deliver 25 = .ok (.istore_n 3, 1) := by decide +kernel
theorem dX7_deliver_26 : decode cX7_deliver 26 = .ok (.aload_n 0, 1) := by decide +kernel
theorem dX7_deliver_27 : decode cX7_deliver 27 = .ok (.getfield 78, 3) := by decide +kernel
theorem dX7_deliver_30 : decode cX7_deliver 30 = .ok (.iload_n 1, 1) := by decide +kernel
theorem dX7_deliver_31 : decode cX7_deliver 31 = .ok (.iaload, 1) := by decide +kernel
theorem dX7_deliver_32 : decode cX7_deliver 32 = .ok (.ifCond .ne 97, 3) := by decide +kernel
theorem dX7_deliver_35 : decode cX7_deliver 35 = .ok (.aload_n 0, 1) := by decide +kernel
theorem dX7_deliver_36 : decode cX7_deliver 36 = .ok (.getfield 44, 3) := by decide +kernel
theorem dX7_deliver_39 : decode cX7_deliver 39 = .ok (.iload_n 3, 1) := by decide +kernel
theorem dX7_deliver_40 : decode cX7_deliver 40 = .ok (.baload, 1) := by decide +kernel
theorem dX7_deliver_41 : decode cX7_deliver 41 = .ok (.ifCond .eq 12, 3) := by decide +kernel
theorem dX7_deliver_44 : decode cX7_deliver 44 = .ok (.aload_n 0, 1) := by decide +kernel
theorem dX7_deliver_45 : decode cX7_deliver 45 = .ok (.getfield 78, 3) := by decide +kernel
theorem dX7_deliver_48 : decode cX7_deliver 48 = .ok (.iload_n 1, 1) := by decide +kernel
theorem dX7_deliver_49 : decode cX7_deliver 49 = .ok (.iconst 3, 1) := by decide +kernel
theorem dX7_deliver_50 : decode cX7_deliver 50 = .ok (.iastore, 1) := by decide +kernel
theorem dX7_deliver_51 : decode cX7_deliver 51 = .ok (.lconst 0, 1) := by decide +kernel
theorem dX7_deliver_52 : decode cX7_deliver 52 = .ok (.lreturn, 1) := by decide +kernel
theorem dX7_deliver_53 : decode cX7_deliver 53 = .ok (.aload_n 0, 1) := by decide +kernel
theorem dX7_deliver_54 : decode cX7_deliver 54 = .ok (.getfield 84, 3) := by decide +kernel
theorem dX7_deliver_57 : decode cX7_deliver 57 = .ok (.iload_n 1, 1) := by decide +kernel
theorem dX7_deliver_58 : decode cX7_deliver 58 = .ok (.iconst 1, 1) := by decide +kernel
theorem dX7_deliver_59 : decode cX7_deliver 59 = .ok (.bastore, 1) := by decide +kernel
theorem dX7_deliver_60 : decode cX7_deliver 60 = .ok (.aload_n 0, 1) := by decide +kernel
theorem dX7_deliver_61 : decode cX7_deliver 61 = .ok (.getfield 87, 3) := by decide +kernel
theorem dX7_deliver_64 : decode cX7_deliver 64 = .ok (.iload_n 1, 1) := by decide +kernel
theorem dX7_deliver_65 : decode cX7_deliver 65 = .ok (.aload_n 0, 1) := by decide +kernel
theorem dX7_deliver_66 : decode cX7_deliver 66 = .ok (.getfield 7, 3) := by decide +kernel
theorem dX7_deliver_69 : decode cX7_deliver 69 = .ok (.iload_n 3, 1) := by decide +kernel
theorem dX7_deliver_70 : decode cX7_deliver 70 = .ok (.iaload, 1) := by decide +kernel
theorem dX7_deliver_71 : decode cX7_deliver 71 = .ok (.iconst 4, 1) := by decide +kernel
theorem dX7_deliver_72 : decode cX7_deliver 72 = .ok (.if_icmp .ne 12, 3) := by decide +kernel
theorem dX7_deliver_75 : decode cX7_deliver 75 = .ok (.aload_n 0, 1) := by decide +kernel
theorem dX7_deliver_76 : decode cX7_deliver 76 = .ok (.getfield 38, 3) := by decide +kernel
theorem dX7_deliver_79 : decode cX7_deliver 79 = .ok (.iload_n 3, 1) := by decide +kernel
theorem dX7_deliver_80 : decode cX7_deliver 80 = .ok (.laload, 1) := by decide +kernel
theorem dX7_deliver_81 : decode cX7_deliver 81 = .ok (.goto 8, 3) := by decide +kernel
theorem dX7_deliver_84 : decode cX7_deliver 84 = .ok (.aload_n 0, 1) := by decide +kernel
theorem dX7_deliver_85 : decode cX7_deliver 85 = .ok (.iload_n 3, 1) := by decide +kernel
theorem dX7_deliver_86 : decode cX7_deliver 86 = .ok (.invokevirtual 187, 3) := by decide +kernel
theorem dX7_deliver_89 : decode cX7_deliver 89 = .ok (.lastore, 1) := by decide +kernel
theorem dX7_deliver_90 : decode cX7_deliver 90 = .ok (.aload_n 0, 1) := by decide +kernel
theorem dX7_deliver_91 : decode cX7_deliver 91 = .ok (.getfield 90, 3) := by decide +kernel
theorem dX7_deliver_94 : decode cX7_deliver 94 = .ok (.iload_n 1, 1) := by decide +kernel
theorem dX7_deliver_95 : decode cX7_deliver 95 = .ok (.aload_n 0, 1) := by decide +kernel
theorem dX7_deliver_96 : decode cX7_deliver 96 = .ok (.getfield 7, 3) := by decide +kernel
theorem dX7_deliver_99 : decode cX7_deliver 99 = .ok (.iload_n 3, 1) := by decide +kernel
theorem dX7_deliver_100 : decode cX7_deliver 100 = .ok (.iaload, 1) := by decide +kernel
theorem dX7_deliver_101 : decode cX7_deliver 101 = .ok (.iconst 4, 1) := by decide +kernel
theorem dX7_deliver_102 : decode cX7_deliver 102 = .ok (.if_icmp .ne 12, 3) := by decide +kernel
theorem dX7_deliver_105 : decode cX7_deliver 105 = .ok (.aload_n 0, 1) := by decide +kernel
theorem dX7_deliver_106 : decode cX7_deliver 106 = .ok (.getfield 41, 3) := by decide +kernel
theorem dX7_deliver_109 : decode cX7_deliver 109 = .ok (.iload_n 3, 1) := by decide +kernel
theorem dX7_deliver_110 : decode cX7_deliver 110 = .ok (.laload, 1) := by decide +kernel
theorem dX7_deliver_111 : decode cX7_deliver 111 = .ok (.goto 8, 3) := by decide +kernel
theorem dX7_deliver_114 : decode cX7_deliver 114 = .ok (.aload_n 0, 1) := by decide +kernel
theorem dX7_deliver_115 : decode cX7_deliver 115 = .ok (.iload_n 3, 1) := by decide +kernel
theorem dX7_deliver_116 : decode cX7_deliver 116 = .ok (.invokevirtual 190, 3) := by decide +kernel
theorem dX7_deliver_119 : decode cX7_deliver 119 = .ok (.lastore, 1) := by decide +kernel
theorem dX7_deliver_120 : decode cX7_deliver 120 = .ok (.aload_n 0, 1) := by decide +kernel
theorem dX7_deliver_121 : decode cX7_deliver 121 = .ok (.getfield 78, 3) := by decide +kernel
theorem dX7_deliver_124 : decode cX7_deliver 124 = .ok (.iload_n 1, 1) := by decide +kernel
theorem dX7_deliver_125 : decode cX7_deliver 125 = .ok (.iconst 1, 1) := by decide +kernel
theorem dX7_deliver_126 : decode cX7_deliver 126 = .ok (.iastore, 1) := by decide +kernel
theorem dX7_deliver_127 : decode cX7_deliver 127 = .ok (.lconst 1, 1) := by decide +kernel
theorem dX7_deliver_128 : decode cX7_deliver 128 = .ok (.lreturn, 1) := by decide +kernel
theorem dX7_deliver_129 : decode cX7_deliver 129 = .ok (.aload_n 0, 1) := by decide +kernel
theorem dX7_deliver_130 : decode cX7_deliver 130 = .ok (.getfield 44, 3) := by decide +kernel
theorem dX7_deliver_133 : decode cX7_deliver 133 = .ok (.iload_n 2, 1) := by decide +kernel
theorem dX7_deliver_134 : decode cX7_deliver 134 = .ok (.baload, 1) := by decide +kernel
theorem dX7_deliver_135 : decode cX7_deliver 135 = .ok (.ifCond .eq 12, 3) := by decide +kernel
theorem dX7_deliver_138 : decode cX7_deliver 138 = .ok (.aload_n 0, 1) := by decide +kernel
theorem dX7_deliver_139 : decode cX7_deliver 139 = .ok (.getfield 78, 3) := by decide +kernel
theorem dX7_deliver_142 : decode cX7_deliver 142 = .ok (.iload_n 1, 1) := by decide +kernel
theorem dX7_deliver_143 : decode cX7_deliver 143 = .ok (.iconst 3, 1) := by decide +kernel
theorem dX7_deliver_144 : decode cX7_deliver 144 = .ok (.iastore, 1) := by decide +kernel
theorem dX7_deliver_145 : decode cX7_deliver 145 = .ok (.lconst 0, 1) := by decide +kernel
theorem dX7_deliver_146 : decode cX7_deliver 146 = .ok (.lreturn, 1) := by decide +kernel
theorem dX7_deliver_147 : decode cX7_deliver 147 = .ok (.aload_n 0, 1) := by decide +kernel
theorem dX7_deliver_148 : decode cX7_deliver 148 = .ok (.getfield 78, 3) := by decide +kernel
theorem dX7_deliver_151 : decode cX7_deliver 151 = .ok (.iload_n 1, 1) := by decide +kernel
theorem dX7_deliver_152 : decode cX7_deliver 152 = .ok (.iconst 2, 1) := by decide +kernel
theorem dX7_deliver_153 : decode cX7_deliver 153 = .ok (.iastore, 1) := by decide +kernel
theorem dX7_deliver_154 : decode cX7_deliver 154 = .ok (.bipush 10, 2) := by decide +kernel
theorem dX7_deliver_156 : decode cX7_deliver 156 = .ok (.iload_n 2, 1) := by decide +kernel
theorem dX7_deliver_157 : decode cX7_deliver 157 = .ok (.imul, 1) := by decide +kernel
theorem dX7_deliver_158 : decode cX7_deliver 158 = .ok (.iload_n 3, 1) := by decide +kernel
theorem dX7_deliver_159 : decode cX7_deliver 159 = .ok (.iadd, 1) := by decide +kernel
theorem dX7_deliver_160 : decode cX7_deliver 160 = .ok (.istore 4, 2) := by decide +kernel
theorem dX7_deliver_162 : decode cX7_deliver 162 = .ok (.aload_n 0, 1) := by decide +kernel
theorem dX7_deliver_163 : decode cX7_deliver 163 = .ok (.getfield 60, 3) := by decide +kernel
theorem dX7_deliver_166 : decode cX7_deliver 166 = .ok (.iload 4, 2) := by decide +kernel
theorem dX7_deliver_168 : decode cX7_deliver 168 = .ok (.iconst 1, 1) := by decide +kernel
theorem dX7_deliver_169 : decode cX7_deliver 169 = .ok (.bastore, 1) := by decide +kernel
theorem dX7_deliver_170 : decode cX7_deliver 170 = .ok (.aload_n 0, 1) := by decide +kernel
theorem dX7_deliver_171 : decode cX7_deliver 171 = .ok (.getfield 63, 3) := by decide +kernel
theorem dX7_deliver_174 : decode cX7_deliver 174 = .ok (.iload 4, 2) := by decide +kernel
theorem dX7_deliver_176 : decode cX7_deliver 176 = .ok (.aload_n 0, 1) := by decide +kernel
theorem dX7_deliver_177 : decode cX7_deliver 177 = .ok (.getfield 87, 3) := by decide +kernel
theorem dX7_deliver_180 : decode cX7_deliver 180 = .ok (.iload_n 1, 1) := by decide +kernel
theorem dX7_deliver_181 : decode cX7_deliver 181 = .ok (.laload, 1) := by decide +kernel
theorem dX7_deliver_182 : decode cX7_deliver 182 = .ok (.lastore, 1) := by decide +kernel
theorem dX7_deliver_183 : decode cX7_deliver 183 = .ok (.aload_n 0, 1) := by decide +kernel
theorem dX7_deliver_184 : decode cX7_deliver 184 = .ok (.getfield 66, 3) := by decide +kernel
theorem dX7_deliver_187 : decode cX7_deliver 187 = .ok (.iload 4, 2) := by decide +kernel
theorem dX7_deliver_189 : decode cX7_deliver 189 = .ok (.aload_n 0, 1) := by decide +kernel
theorem dX7_deliver_190 : decode cX7_deliver 190 = .ok (.getfield 90, 3) := by decide +kernel
theorem dX7_deliver_193 : decode cX7_deliver 193 = .ok (.iload_n 1, 1) := by decide +kernel
theorem dX7_deliver_194 : decode cX7_deliver 194 = .ok (.laload, 1) := by decide +kernel
theorem dX7_deliver_195 : decode cX7_deliver 195 = .ok (.aload_n 0, 1) := by decide +kernel
theorem dX7_deliver_196 : decode cX7_deliver 196 = .ok (.iload_n 2, 1) := by decide +kernel
theorem dX7_deliver_197 : decode cX7_deliver 197 = .ok (.aload_n 0, 1) := by decide +kernel
theorem dX7_deliver_198 : decode cX7_deliver 198 = .ok (.iload_n 2, 1) := by decide +kernel
theorem dX7_deliver_199 : decode cX7_deliver 199 = .ok (.invokevirtual 173, 3) := by decide +kernel
theorem dX7_deliver_202 : decode cX7_deliver 202 = .ok (.aload_n 0, 1) := by decide +kernel
theorem dX7_deliver_203 : decode cX7_deliver 203 = .ok (.getfield 81, 3) := by decide +kernel
theorem dX7_deliver_206 : decode cX7_deliver 206 = .ok (.iload_n 1, 1) := by decide +kernel
theorem dX7_deliver_207 : decode cX7_deliver 207 = .ok (.laload, 1) := by decide +kernel
theorem dX7_deliver_208 : decode cX7_deliver 208 = .ok (.lsub, 1) := by decide +kernel
theorem dX7_deliver_209 : decode cX7_deliver 209 = .ok (.invokevirtual 184, 3) := by decide +kernel
theorem dX7_deliver_212 : decode cX7_deliver 212 = .ok (.ladd, 1) := by decide +kernel
theorem dX7_deliver_213 : decode cX7_deliver 213 = .ok (.lastore, 1) := by decide +kernel
theorem dX7_deliver_214 : decode cX7_deliver 214 = .ok (.aload_n 0, 1) := by decide +kernel
theorem dX7_deliver_215 : decode cX7_deliver 215 = .ok (.getfield 69, 3) := by decide +kernel
theorem dX7_deliver_218 : decode cX7_deliver 218 = .ok (.iload 4, 2) := by decide +kernel
theorem dX7_deliver_220 : decode cX7_deliver 220 = .ok (.aload_n 0, 1) := by decide +kernel
theorem dX7_deliver_221 : decode cX7_deliver 221 = .ok (.iload_n 2, 1) := by decide +kernel
theorem dX7_deliver_222 : decode cX7_deliver 222 = .ok (.invokevirtual 173, 3) := by decide +kernel
theorem dX7_deliver_225 : decode cX7_deliver 225 = .ok (.lastore, 1) := by decide +kernel
theorem dX7_deliver_226 : decode cX7_deliver 226 = .ok (.ldc2_w 203, 3) := by decide +kernel
theorem dX7_deliver_229 : decode cX7_deliver 229 = .ok (.lreturn, 1) := by decide +kernel
theorem dX7_lose_0 : decode cX7_lose 0 = .ok (.aload_n 0, 1) := by decide +kernel
theorem dX7_lose_1 : decode cX7_lose 1 = .ok (.iload_n 1, 1) := by decide +kernel
theorem dX7_lose_2 : decode cX7_lose 2 = .ok (.invokevirtual 200, 3) := by decide +kernel
theorem dX7_lose_5 : decode cX7_lose 5 = .ok (.ifCond .ne 7, 3) := by decide +kernel
theorem dX7_lose_8 : decode cX7_lose 8 = .ok (.ldc2_w 155, 3) := by decide +kernel
theorem dX7_lose_11 : decode cX7_lose 11 = .ok (.lreturn, 1) := by decide +kernel
theorem dX7_lose_12 : decode cX7_lose 12 = .ok (.aload_n 0, 1) := by decide +kernel
theorem dX7_lose_13 : decode cX7_lose 13 = .ok (.getfield 78, 3) := by decide +kernel
theorem dX7_lose_16 : decode cX7_lose 16 = .ok (.iload_n 1, 1) := by decide +kernel
theorem dX7_lose_17 : decode cX7_lose 17 = .ok (.iconst 3, 1) := by decide +kernel
theorem dX7_lose_18 : decode cX7_lose 18 = .ok (.iastore, 1) := by decide +kernel
theorem dX7_lose_19 : decode cX7_lose 19 = .ok (.lconst 1, 1) := by decide +kernel
theorem dX7_lose_20 : decode cX7_lose 20 = .ok (.lreturn, 1) := by decide +kernel
theorem dX7_twice_0 : decode cX7_twice 0 = .ok (.aload_n 0, 1) := by decide +kernel
theorem dX7_twice_1 : decode cX7_twice 1 = .ok (.iload_n 1, 1) := by decide +kernel
theorem dX7_twice_2 : decode cX7_twice 2 = .ok (.invokevirtual 200, 3) := by decide +kernel
theorem dX7_twice_5 : decode cX7_twice 5 = .ok (.ifCond .eq 13, 3) := by decide +kernel
theorem dX7_twice_8 : decode cX7_twice 8 = .ok (.aload_n 0, 1) := by decide +kernel
theorem dX7_twice_9 : decode cX7_twice 9 = .ok (.getfield 197, 3) := by decide +kernel
theorem dX7_twice_12 : decode cX7_twice 12 = .ok (.sipush 200, 3) := by decide +kernel
theorem dX7_twice_15 : decode cX7_twice 15 = .ok (.if_icmp .ne 7, 3) := by decide +kernel
theorem dX7_twice_18 : decode cX7_twice 18 = .ok (.ldc2_w 155, 3) := by decide +kernel
theorem dX7_twice_21 : decode cX7_twice 21 = .ok (.lreturn, 1) := by decide +kernel
theorem dX7_twice_22 : decode cX7_twice 22 = .ok (.aload_n 0, 1) := by decide +kernel
theorem dX7_twice_23 : decode cX7_twice 23 = .ok (.getfield 72, 3) := by decide +kernel
theorem dX7_twice_26 : decode cX7_twice 26 = .ok (.aload_n 0, 1) := by decide +kernel
theorem dX7_twice_27 : decode cX7_twice 27 = .ok (.getfield 197, 3) := by decide +kernel
theorem dX7_twice_30 : decode cX7_twice 30 = .ok (.aload_n 0, 1) := by decide +kernel
theorem dX7_twice_31 : decode cX7_twice 31 = .ok (.getfield 72, 3) := by decide +kernel
theorem dX7_twice_34 : decode cX7_twice 34 = .ok (.iload_n 1, 1) := by decide +kernel
theorem dX7_twice_35 : decode cX7_twice 35 = .ok (.iaload, 1) := by decide +kernel
theorem dX7_twice_36 : decode cX7_twice 36 = .ok (.iastore, 1) := by decide +kernel
theorem dX7_twice_37 : decode cX7_twice 37 = .ok (.aload_n 0, 1) := by decide +kernel
theorem dX7_twice_38 : decode cX7_twice 38 = .ok (.getfield 75, 3) := by decide +kernel
theorem dX7_twice_41 : decode cX7_twice 41 = .ok (.aload_n 0, 1) := by decide +kernel
theorem dX7_twice_42 : decode cX7_twice 42 = .ok (.getfield 197, 3) := by decide +kernel
theorem dX7_twice_45 : decode cX7_twice 45 = .ok (.aload_n 0, 1) := by decide +kernel
theorem dX7_twice_46 : decode cX7_twice 46 = .ok (.getfield 75, 3) := by decide +kernel
theorem dX7_twice_49 : decode cX7_twice 49 = .ok (.iload_n 1, 1) := by decide +kernel
theorem dX7_twice_50 : decode cX7_twice 50 = .ok (.iaload, 1) := by decide +kernel
theorem dX7_twice_51 : decode cX7_twice 51 = .ok (.iastore, 1) := by decide +kernel
theorem dX7_twice_52 : decode cX7_twice 52 = .ok (.aload_n 0, 1) := by decide +kernel
theorem dX7_twice_53 : decode cX7_twice 53 = .ok (.getfield 78, 3) := by decide +kernel
theorem dX7_twice_56 : decode cX7_twice 56 = .ok (.aload_n 0, 1) := by decide +kernel
theorem dX7_twice_57 : decode cX7_twice 57 = .ok (.getfield 197, 3) := by decide +kernel
theorem dX7_twice_60 : decode cX7_twice 60 = .ok (.aload_n 0, 1) := by decide +kernel
theorem dX7_twice_61 : decode cX7_twice 61 = .ok (.getfield 78, 3) := by decide +kernel
theorem dX7_twice_64 : decode cX7_twice 64 = .ok (.iload_n 1, 1) := by decide +kernel
theorem dX7_twice_65 : decode cX7_twice 65 = .ok (.iaload, 1) := by decide +kernel
theorem dX7_twice_66 : decode cX7_twice 66 = .ok (.iastore, 1) := by decide +kernel
theorem dX7_twice_67 : decode cX7_twice 67 = .ok (.aload_n 0, 1) := by decide +kernel
theorem dX7_twice_68 : decode cX7_twice 68 = .ok (.getfield 81, 3) := by decide +kernel
theorem dX7_twice_71 : decode cX7_twice 71 = .ok (.aload_n 0, 1) := by decide +kernel
theorem dX7_twice_72 : decode cX7_twice 72 = .ok (.getfield 197, 3) := by decide +kernel
theorem dX7_twice_75 : decode cX7_twice 75 = .ok (.aload_n 0, 1) := by decide +kernel
theorem dX7_twice_76 : decode cX7_twice 76 = .ok (.getfield 81, 3) := by decide +kernel
theorem dX7_twice_79 : decode cX7_twice 79 = .ok (.iload_n 1, 1) := by decide +kernel
theorem dX7_twice_80 : decode cX7_twice 80 = .ok (.laload, 1) := by decide +kernel
theorem dX7_twice_81 : decode cX7_twice 81 = .ok (.lastore, 1) := by decide +kernel
theorem dX7_twice_82 : decode cX7_twice 82 = .ok (.aload_n 0, 1) := by decide +kernel
theorem dX7_twice_83 : decode cX7_twice 83 = .ok (.getfield 84, 3) := by decide +kernel
theorem dX7_twice_86 : decode cX7_twice 86 = .ok (.aload_n 0, 1) := by decide +kernel
theorem dX7_twice_87 : decode cX7_twice 87 = .ok (.getfield 197, 3) := by decide +kernel
theorem dX7_twice_90 : decode cX7_twice 90 = .ok (.aload_n 0, 1) := by decide +kernel
theorem dX7_twice_91 : decode cX7_twice 91 = .ok (.getfield 84, 3) := by decide +kernel
theorem dX7_twice_94 : decode cX7_twice 94 = .ok (.iload_n 1, 1) := by decide +kernel
theorem dX7_twice_95 : decode cX7_twice 95 = .ok (.baload, 1) := by decide +kernel
theorem dX7_twice_96 : decode cX7_twice 96 = .ok (.bastore, 1) := by decide +kernel
theorem dX7_twice_97 : decode cX7_twice 97 = .ok (.aload_n 0, 1) := by decide +kernel
theorem dX7_twice_98 : decode cX7_twice 98 = .ok (.getfield 87, 3) := by decide +kernel
theorem dX7_twice_101 : decode cX7_twice 101 = .ok (.aload_n 0, 1) := by decide +kernel
theorem dX7_twice_102 : decode cX7_twice 102 = .ok (.getfield 197, 3) := by decide +kernel
theorem dX7_twice_105 : decode cX7_twice 105 = .ok (.aload_n 0, 1) := by decide +kernel
theorem dX7_twice_106 : decode cX7_twice 106 = .ok (.getfield 87, 3) := by decide +kernel
theorem dX7_twice_109 : decode cX7_twice 109 = .ok (.iload_n 1, 1) := by decide +kernel
theorem dX7_twice_110 : decode cX7_twice 110 = .ok (.laload, 1) := by decide +kernel
theorem dX7_twice_111 : decode cX7_twice 111 = .ok (.lastore, 1) := by decide +kernel
theorem dX7_twice_112 : decode cX7_twice 112 = .ok (.aload_n 0, 1) := by decide +kernel
theorem dX7_twice_113 : decode cX7_twice 113 = .ok (.getfield 90, 3) := by decide +kernel
theorem dX7_twice_116 : decode cX7_twice 116 = .ok (.aload_n 0, 1) := by decide +kernel
theorem dX7_twice_117 : decode cX7_twice 117 = .ok (.getfield 197, 3) := by decide +kernel
theorem dX7_twice_120 : decode cX7_twice 120 = .ok (.aload_n 0, 1) := by decide +kernel
theorem dX7_twice_121 : decode cX7_twice 121 = .ok (.getfield 90, 3) := by decide +kernel
theorem dX7_twice_124 : decode cX7_twice 124 = .ok (.iload_n 1, 1) := by decide +kernel
theorem dX7_twice_125 : decode cX7_twice 125 = .ok (.laload, 1) := by decide +kernel
theorem dX7_twice_126 : decode cX7_twice 126 = .ok (.lastore, 1) := by decide +kernel
theorem dX7_twice_127 : decode cX7_twice 127 = .ok (.aload_n 0, 1) := by decide +kernel
theorem dX7_twice_128 : decode cX7_twice 128 = .ok (.dup, 1) := by decide +kernel
theorem dX7_twice_129 : decode cX7_twice 129 = .ok (.getfield 197, 3) := by decide +kernel
theorem dX7_twice_132 : decode cX7_twice 132 = .ok (.iconst 1, 1) := by decide +kernel
theorem dX7_twice_133 : decode cX7_twice 133 = .ok (.iadd, 1) := by decide +kernel
theorem dX7_twice_134 : decode cX7_twice 134 = .ok (.putfield 197, 3) := by decide +kernel
theorem dX7_twice_137 : decode cX7_twice 137 = .ok (.aload_n 0, 1) := by decide +kernel
theorem dX7_twice_138 : decode cX7_twice 138 = .ok (.getfield 197, 3) := by decide +kernel
theorem dX7_twice_141 : decode cX7_twice 141 = .ok (.iconst 1, 1) := by decide +kernel
theorem dX7_twice_142 : decode cX7_twice 142 = .ok (.isub, 1) := by decide +kernel
theorem dX7_twice_143 : decode cX7_twice 143 = .ok (.i2l, 1) := by decide +kernel
theorem dX7_twice_144 : decode cX7_twice 144 = .ok (.lreturn, 1) := by decide +kernel
theorem dX7_letter_0 : decode cX7_letter 0 = .ok (.iload_n 1, 1) := by decide +kernel
theorem dX7_letter_1 : decode cX7_letter 1 = .ok (.i2l, 1) := by decide +kernel
theorem dX7_letter_2 : decode cX7_letter 2 = .ok (.lconst 0, 1) := by decide +kernel
theorem dX7_letter_3 : decode cX7_letter 3 = .ok (.aload_n 0, 1) := by decide +kernel
theorem dX7_letter_4 : decode cX7_letter 4 = .ok (.getfield 197, 3) := by decide +kernel
theorem dX7_letter_7 : decode cX7_letter 7 = .ok (.i2l, 1) := by decide +kernel
theorem dX7_letter_8 : decode cX7_letter 8 = .ok (.lconst 1, 1) := by decide +kernel
theorem dX7_letter_9 : decode cX7_letter 9 = .ok (.lsub, 1) := by decide +kernel
theorem dX7_letter_10 : decode cX7_letter 10 = .ok (.invokestatic 143, 3) := by decide +kernel
theorem dX7_letter_13 : decode cX7_letter 13 = .ok (.ifCond .ne 7, 3) := by decide +kernel
theorem dX7_letter_16 : decode cX7_letter 16 = .ok (.ldc2_w 155, 3) := by decide +kernel
theorem dX7_letter_19 : decode cX7_letter 19 = .ok (.lreturn, 1) := by decide +kernel
theorem dX7_letter_20 : decode cX7_letter 20 = .ok (.iload_n 2, 1) := by decide +kernel
theorem dX7_letter_21 : decode cX7_letter 21 = .ok (.tableswitch 103 0 4 #[35, 43, 51, 59, 81], 35) := by decide +kernel
theorem dX7_letter_56 : decode cX7_letter 56 = .ok (.aload_n 0, 1) := by decide +kernel
theorem dX7_letter_57 : decode cX7_letter 57 = .ok (.getfield 72, 3) := by decide +kernel
theorem dX7_letter_60 : decode cX7_letter 60 = .ok (.iload_n 1, 1) := by decide +kernel
theorem dX7_letter_61 : decode cX7_letter 61 = .ok (.iaload, 1) := by decide +kernel
theorem dX7_letter_62 : decode cX7_letter 62 = .ok (.i2l, 1) := by decide +kernel
theorem dX7_letter_63 : decode cX7_letter 63 = .ok (.lreturn, 1) := by decide +kernel
theorem dX7_letter_64 : decode cX7_letter 64 = .ok (.aload_n 0, 1) := by decide +kernel
theorem dX7_letter_65 : decode cX7_letter 65 = .ok (.getfield 75, 3) := by decide +kernel
theorem dX7_letter_68 : decode cX7_letter 68 = .ok (.iload_n 1, 1) := by decide +kernel
theorem dX7_letter_69 : decode cX7_letter 69 = .ok (.iaload, 1) := by decide +kernel
theorem dX7_letter_70 : decode cX7_letter 70 = .ok (.i2l, 1) := by decide +kernel
theorem dX7_letter_71 : decode cX7_letter 71 = .ok (.lreturn, 1) := by decide +kernel
theorem dX7_letter_72 : decode cX7_letter 72 = .ok (.aload_n 0, 1) := by decide +kernel
theorem dX7_letter_73 : decode cX7_letter 73 = .ok (.getfield 78, 3) := by decide +kernel
theorem dX7_letter_76 : decode cX7_letter 76 = .ok (.iload_n 1, 1) := by decide +kernel
theorem dX7_letter_77 : decode cX7_letter 77 = .ok (.iaload, 1) := by decide +kernel
theorem dX7_letter_78 : decode cX7_letter 78 = .ok (.i2l, 1) := by decide +kernel
theorem dX7_letter_79 : decode cX7_letter 79 = .ok (.lreturn, 1) := by decide +kernel
theorem dX7_letter_80 : decode cX7_letter 80 = .ok (.aload_n 0, 1) := by decide +kernel
theorem dX7_letter_81 : decode cX7_letter 81 = .ok (.getfield 84, 3) := by decide +kernel
theorem dX7_letter_84 : decode cX7_letter 84 = .ok (.iload_n 1, 1) := by decide +kernel
theorem dX7_letter_85 : decode cX7_letter 85 = .ok (.baload, 1) := by decide +kernel
theorem dX7_letter_86 : decode cX7_letter 86 = .ok (.ifCond .eq 12, 3) := by decide +kernel
theorem dX7_letter_89 : decode cX7_letter 89 = .ok (.aload_n 0, 1) := by decide +kernel
theorem dX7_letter_90 : decode cX7_letter 90 = .ok (.getfield 87, 3) := by decide +kernel
theorem dX7_letter_93 : decode cX7_letter 93 = .ok (.iload_n 1, 1) := by decide +kernel
theorem dX7_letter_94 : decode cX7_letter 94 = .ok (.laload, 1) := by decide +kernel
theorem dX7_letter_95 : decode cX7_letter 95 = .ok (.goto 6, 3) := by decide +kernel
theorem dX7_letter_98 : decode cX7_letter 98 = .ok (.ldc2_w 155, 3) := by decide +kernel
theorem dX7_letter_101 : decode cX7_letter 101 = .ok (.lreturn, 1) := by decide +kernel
theorem dX7_letter_102 : decode cX7_letter 102 = .ok (.aload_n 0, 1) := by decide +kernel
theorem dX7_letter_103 : decode cX7_letter 103 = .ok (.getfield 84, 3) := by decide +kernel
theorem dX7_letter_106 : decode cX7_letter 106 = .ok (.iload_n 1, 1) := by decide +kernel
theorem dX7_letter_107 : decode cX7_letter 107 = .ok (.baload, 1) := by decide +kernel
theorem dX7_letter_108 : decode cX7_letter 108 = .ok (.ifCond .eq 12, 3) := by decide +kernel
theorem dX7_letter_111 : decode cX7_letter 111 = .ok (.aload_n 0, 1) := by decide +kernel
theorem dX7_letter_112 : decode cX7_letter 112 = .ok (.getfield 90, 3) := by decide +kernel
theorem dX7_letter_115 : decode cX7_letter 115 = .ok (.iload_n 1, 1) := by decide +kernel
theorem dX7_letter_116 : decode cX7_letter 116 = .ok (.laload, 1) := by decide +kernel
theorem dX7_letter_117 : decode cX7_letter 117 = .ok (.goto 6, 3) := by decide +kernel
theorem dX7_letter_120 : decode cX7_letter 120 = .ok (.ldc2_w 155, 3) := by decide +kernel
theorem dX7_letter_123 : decode cX7_letter 123 = .ok (.lreturn, 1) := by decide +kernel
theorem dX7_letter_124 : decode cX7_letter 124 = .ok (.ldc2_w 155, 3) := by decide +kernel
theorem dX7_letter_127 : decode cX7_letter 127 = .ok (.lreturn, 1) := by decide +kernel
theorem dX7_heard_0 : decode cX7_heard 0 = .ok (.aload_n 0, 1) := by decide +kernel
theorem dX7_heard_1 : decode cX7_heard 1 = .ok (.iload_n 1, 1) := by decide +kernel
theorem dX7_heard_2 : decode cX7_heard 2 = .ok (.invokevirtual 163, 3) := by decide +kernel
theorem dX7_heard_5 : decode cX7_heard 5 = .ok (.ifCond .eq 35, 3) := by decide +kernel
theorem dX7_heard_8 : decode cX7_heard 8 = .ok (.aload_n 0, 1) := by decide +kernel
theorem dX7_heard_9 : decode cX7_heard 9 = .ok (.iload_n 2, 1) := by decide +kernel
theorem dX7_heard_10 : decode cX7_heard 10 = .ok (.invokevirtual 163, 3) := by decide +kernel
theorem dX7_heard_13 : decode cX7_heard 13 = .ok (.ifCond .eq 27, 3) := by decide +kernel
theorem dX7_heard_16 : decode cX7_heard 16 = .ok (.aload_n 0, 1) := by decide +kernel
theorem dX7_heard_17 : decode cX7_heard 17 = .ok (.getfield 60, 3) := by decide +kernel
theorem dX7_heard_20 : decode cX7_heard 20 = .ok (.bipush 10, 2) := by decide +kernel
theorem dX7_heard_22 : decode cX7_heard 22 = .ok (.iload_n 1, 1) := by decide +kernel
theorem dX7_heard_23 : decode cX7_heard 23 = .ok (.imul, 1) := by decide +kernel
theorem dX7_heard_24 : decode cX7_heard 24 = .ok (.iload_n 2, 1) := by decide +kernel
theorem dX7_heard_25 : decode cX7_heard 25 = .ok (.iadd, 1) := by decide +kernel
theorem dX7_heard_26 : decode cX7_heard 26 = .ok (.baload, 1) := by decide +kernel
theorem dX7_heard_27 : decode cX7_heard 27 = .ok (.ifCond .eq 13, 3) := by decide +kernel
theorem dX7_heard_30 : decode cX7_heard 30 = .ok (.iload_n 3, 1) := by decide +kernel
theorem dX7_heard_31 : decode cX7_heard 31 = .ok (.i2l, 1) := by decide +kernel
theorem dX7_heard_32 : decode cX7_heard 32 = .ok (.lconst 0, 1) := by decide +kernel
theorem dX7_heard_33 : decode cX7_heard 33 = .ok (.lconst 1, 1) := by decide +kernel
theorem dX7_heard_34 : decode cX7_heard 34 = .ok (.invokestatic 143, 3) := by decide +kernel
theorem dX7_heard_37 : decode cX7_heard 37 = .ok (.ifCond .ne 7, 3) := by decide +kernel
theorem dX7_heard_40 : decode cX7_heard 40 = .ok (.ldc2_w 155, 3) := by decide +kernel
theorem dX7_heard_43 : decode cX7_heard 43 = .ok (.lreturn, 1) := by decide +kernel
theorem dX7_heard_44 : decode cX7_heard 44 = .ok (.iload_n 3, 1) := by decide +kernel
theorem dX7_heard_45 : decode cX7_heard 45 = .ok (.ifCond .ne 12, 3) := by decide +kernel
theorem dX7_heard_48 : decode cX7_heard 48 = .ok (.aload_n 0, 1) := by decide +kernel
theorem dX7_heard_49 : decode cX7_heard 49 = .ok (.iload_n 1, 1) := by decide +kernel
theorem dX7_heard_50 : decode cX7_heard 50 = .ok (.iload_n 2, 1) := by decide +kernel
theorem dX7_heard_51 : decode cX7_heard 51 = .ok (.invokevirtual 205, 3) := by decide +kernel
theorem dX7_heard_54 : decode cX7_heard 54 = .ok (.goto 9, 3) := by decide +kernel
theorem dX7_heard_57 : decode cX7_heard 57 = .ok (.aload_n 0, 1) := by decide +kernel
theorem dX7_heard_58 : decode cX7_heard 58 = .ok (.iload_n 1, 1) := by decide +kernel
theorem dX7_heard_59 : decode cX7_heard 59 = .ok (.iload_n 2, 1) := by decide +kernel
theorem dX7_heard_60 : decode cX7_heard 60 = .ok (.invokevirtual 209, 3) := by decide +kernel
theorem dX7_heard_63 : decode cX7_heard 63 = .ok (.lreturn, 1) := by decide +kernel
theorem dX7_gather_0 : decode cX7_gather 0 = .ok (.aload_n 0, 1) := by decide +kernel
theorem dX7_gather_1 : decode cX7_gather 1 = .ok (.iconst 0, 1) := by decide +kernel
theorem dX7_gather_2 : decode cX7_gather 2 = .ok (.putfield 212, 3) := by decide +kernel
theorem dX7_gather_5 : decode cX7_gather 5 = .ok (.iconst 0, 1) := by decide +kernel
theorem dX7_gather_6 : decode cX7_gather 6 = .ok (.istore_n 2, 1) := by decide +kernel
theorem dX7_gather_7 : decode cX7_gather 7 = .ok (.iload_n 2, 1) := by decide +kernel
theorem dX7_gather_8 : decode cX7_gather 8 = .ok (.aload_n 0, 1) := by decide +kernel
theorem dX7_gather_9 : decode cX7_gather 9 = .ok (.getfield 139, 3) := by decide +kernel
theorem dX7_gather_12 : decode cX7_gather 12 = .ok (.if_icmp .ge 104, 3) := by decide +kernel
theorem dX7_gather_15 : decode cX7_gather 15 = .ok (.iload_n 2, 1) := by decide +kernel
theorem dX7_gather_16 : decode cX7_gather 16 = .ok (.iload_n 1, 1) := by decide +kernel
theorem dX7_gather_17 : decode cX7_gather 17 = .ok (.if_icmp .eq 17, 3) := by decide +kernel
theorem dX7_gather_20 : decode cX7_gather 20 = .ok (.aload_n 0, 1) := by decide +kernel
theorem dX7_gather_21 : decode cX7_gather 21 = .ok (.getfield 60, 3) := by decide +kernel
theorem dX7_gather_24 : decode cX7_gather 24 = .ok (.bipush 10, 2) := by decide +kernel
theorem dX7_gather_26 : decode cX7_gather 26 = .ok (.iload_n 1, 1) := by decide +kernel
theorem dX7_gather_27 : decode cX7_gather 27 = .ok (.imul, 1) := by decide +kernel
theorem dX7_gather_28 : decode cX7_gather 28 = .ok (.iload_n 2, 1) := by decide +kernel
theorem dX7_gather_29 : decode cX7_gather 29 = .ok (.iadd, 1) := by decide +kernel
theorem dX7_gather_30 : decode cX7_gather 30 = .ok (.baload, 1) := by decide +kernel
theorem dX7_gather_31 : decode cX7_gather 31 = .ok (.ifCond .eq 79, 3) := by decide +kernel
theorem dX7_gather_34 : decode cX7_gather 34 = .ok (.aload_n 0, 1) := by decide +kernel
theorem dX7_gather_35 : decode cX7_gather 35 = .ok (.getfield 114, 3) := by decide +kernel
theorem dX7_gather_38 : decode cX7_gather 38 = .ok (.aload_n 0, 1) := by decide +kernel
theorem dX7_gather_39 : decode cX7_gather 39 = .ok (.getfield 212, 3) := by decide +kernel
theorem dX7_gather_42 : decode cX7_gather 42 = .ok (.iload_n 2, 1) := by decide +kernel
theorem dX7_gather_43 : decode cX7_gather 43 = .ok (.iastore, 1) := by decide +kernel
theorem dX7_gather_44 : decode cX7_gather 44 = .ok (.aload_n 0, 1) := by decide +kernel
theorem dX7_gather_45 : decode cX7_gather 45 = .ok (.getfield 117, 3) := by decide +kernel
theorem dX7_gather_48 : decode cX7_gather 48 = .ok (.aload_n 0, 1) := by decide +kernel
theorem dX7_gather_49 : decode cX7_gather 49 = .ok (.getfield 212, 3) := by decide +kernel
theorem dX7_gather_52 : decode cX7_gather 52 = .ok (.iload_n 2, 1) := by decide +kernel
theorem dX7_gather_53 : decode cX7_gather 53 = .ok (.iload_n 1, 1) := by decide +kernel
theorem dX7_gather_54 : decode cX7_gather 54 = .ok (.if_icmp .ne 11, 3) := by decide +kernel
theorem dX7_gather_57 : decode cX7_gather 57 = .ok (.aload_n 0, 1) := by decide +kernel
theorem dX7_gather_58 : decode cX7_gather 58 = .ok (.iload_n 1, 1) := by decide +kernel
theorem dX7_gather_59 : decode cX7_gather 59 = .ok (.invokevirtual 187, 3) := by decide +kernel
theorem dX7_gather_62 : decode cX7_gather 62 = .ok (.goto 9, 3) := by decide +kernel
theorem dX7_gather_65 : decode cX7_gather 65 = .ok (.aload_n 0, 1) := by decide +kernel
theorem dX7_gather_66 : decode cX7_gather 66 = .ok (.iload_n 1, 1) := by decide +kernel
theorem dX7_gather_67 : decode cX7_gather 67 = .ok (.iload_n 2, 1) := by decide +kernel
theorem dX7_gather_68 : decode cX7_gather 68 = .ok (.invokevirtual 205, 3) := by decide +kernel
theorem dX7_gather_71 : decode cX7_gather 71 = .ok (.lastore, 1) := by decide +kernel
theorem dX7_gather_72 : decode cX7_gather 72 = .ok (.aload_n 0, 1) := by decide +kernel
theorem dX7_gather_73 : decode cX7_gather 73 = .ok (.getfield 120, 3) := by decide +kernel
theorem dX7_gather_76 : decode cX7_gather 76 = .ok (.aload_n 0, 1) := by decide +kernel
theorem dX7_gather_77 : decode cX7_gather 77 = .ok (.getfield 212, 3) := by decide +kernel
theorem dX7_gather_80 : decode cX7_gather 80 = .ok (.iload_n 2, 1) := by decide +kernel
theorem dX7_gather_81 : decode cX7_gather 81 = .ok (.iload_n 1, 1) := by decide +kernel
theorem dX7_gather_82 : decode cX7_gather 82 = .ok (.if_icmp .ne 11, 3) := by decide +kernel
theorem dX7_gather_85 : decode cX7_gather 85 = .ok (.aload_n 0, 1) := by decide +kernel
theorem dX7_gather_86 : decode cX7_gather 86 = .ok (.iload_n 1, 1) := by decide +kernel
theorem dX7_gather_87 : decode cX7_gather 87 = .ok (.invokevirtual 190, 3) := by decide +kernel
theorem dX7_gather_90 : decode cX7_gather 90 = .ok (.goto 9, 3) := by decide +kernel
theorem dX7_gather_93 : decode cX7_gather 93 = .ok (.aload_n 0, 1) := by decide +kernel
theorem dX7_gather_94 : decode cX7_gather 94 = .ok (.iload_n 1, 1) := by decide +kernel
theorem dX7_gather_95 : decode cX7_gather 95 = .ok (.iload_n 2, 1) := by decide +kernel
theorem dX7_gather_96 : decode cX7_gather 96 = .ok (.invokevirtual 209, 3) := by decide +kernel
theorem dX7_gather_99 : decode cX7_gather 99 = .ok (.lastore, 1) := by decide +kernel
theorem dX7_gather_100 : decode cX7_gather 100 = .ok (.aload_n 0, 1) := by decide +kernel
theorem dX7_gather_101 : decode cX7_gather 101 = .ok (.dup, 1) := by decide +kernel
theorem dX7_gather_102 : decode cX7_gather 102 = .ok (.getfield 212, 3) := by decide +kernel
theorem dX7_gather_105 : decode cX7_gather 105 = .ok (.iconst 1, 1) := by decide +kernel
theorem dX7_gather_106 : decode cX7_gather 106 = .ok (.iadd, 1) := by decide +kernel
theorem dX7_gather_107 : decode cX7_gather 107 = .ok (.putfield 212, 3) := by decide +kernel
theorem dX7_gather_110 : decode cX7_gather 110 = .ok (.iinc 2 1, 3) := by decide +kernel
theorem dX7_gather_113 : decode cX7_gather 113 = .ok (.goto (-106), 3) := by decide +kernel
theorem dX7_gather_116 : decode cX7_gather 116 = .ok (.return_, 1) := by decide +kernel
theorem dX7_votesFor_0 : decode cX7_votesFor 0 = .ok (.iconst 0, 1) := by decide +kernel
theorem dX7_votesFor_1 : decode cX7_votesFor 1 = .ok (.istore_n 3, 1) := by decide +kernel
theorem dX7_votesFor_2 : decode cX7_votesFor 2 = .ok (.iconst 0, 1) := by decide +kernel
theorem dX7_votesFor_3 : decode cX7_votesFor 3 = .ok (.istore 4, 2) := by decide +kernel
theorem dX7_votesFor_5 : decode cX7_votesFor 5 = .ok (.iload 4, 2) := by decide +kernel
theorem dX7_votesFor_7 : decode cX7_votesFor 7 = .ok (.aload_n 0, 1) := by decide +kernel
theorem dX7_votesFor_8 : decode cX7_votesFor 8 = .ok (.getfield 212, 3) := by decide +kernel
theorem dX7_votesFor_11 : decode cX7_votesFor 11 = .ok (.if_icmp .ge 38, 3) := by decide +kernel
theorem dX7_votesFor_14 : decode cX7_votesFor 14 = .ok (.iload_n 3, 1) := by decide +kernel
theorem dX7_votesFor_15 : decode cX7_votesFor 15 = .ok (.lload_n 1, 1) := by decide +kernel
theorem dX7_votesFor_16 : decode cX7_votesFor 16 = .ok (.aload_n 0, 1) := by decide +kernel
theorem dX7_votesFor_17 : decode cX7_votesFor 17 = .ok (.getfield 117, 3) := by decide +kernel
theorem dX7_votesFor_20 : decode cX7_votesFor 20 = .ok (.iload 4, 2) := by decide +kernel
theorem dX7_votesFor_22 : decode cX7_votesFor 22 = .ok (.laload, 1) := by decide +kernel
theorem dX7_votesFor_23 : decode cX7_votesFor 23 = .ok (.aload_n 0, 1) := by decide +kernel
theorem dX7_votesFor_24 : decode cX7_votesFor 24 = .ok (.getfield 120, 3) := by decide +kernel
theorem dX7_votesFor_27 : decode cX7_votesFor 27 = .ok (.iload 4, 2) := by decide +kernel
theorem dX7_votesFor_29 : decode cX7_votesFor 29 = .ok (.laload, 1) := by decide +kernel
theorem dX7_votesFor_30 : decode cX7_votesFor 30 = .ok (.invokestatic 143, 3) := by decide +kernel
theorem dX7_votesFor_33 : decode cX7_votesFor 33 = .ok (.ifCond .eq 7, 3) := by decide +kernel
theorem dX7_votesFor_36 : decode cX7_votesFor 36 = .ok (.iconst 1, 1) := by decide +kernel
theorem dX7_votesFor_37 : decode cX7_votesFor 37 = .ok (.goto 4, 3) := by decide +kernel
theorem dX7_votesFor_40 : decode cX7_votesFor 40 = .ok (.iconst 0, 1) := by decide +kernel
theorem dX7_votesFor_41 : decode cX7_votesFor 41 = .ok (.iadd, 1) := by decide +kernel
theorem dX7_votesFor_42 : decode cX7_votesFor 42 = .ok (.istore_n 3, 1) := by decide +kernel
theorem dX7_votesFor_43 : decode cX7_votesFor 43 = .ok (.iinc 4 1, 3) := by decide +kernel
theorem dX7_votesFor_46 : decode cX7_votesFor 46 = .ok (.goto (-41), 3) := by decide +kernel
theorem dX7_votesFor_49 : decode cX7_votesFor 49 = .ok (.iload_n 3, 1) := by decide +kernel
theorem dX7_votesFor_50 : decode cX7_votesFor 50 = .ok (.ireturn, 1) := by decide +kernel
theorem dX7_votes_0 : decode cX7_votes 0 = .ok (.aload_n 0, 1) := by decide +kernel
theorem dX7_votes_1 : decode cX7_votes 1 = .ok (.iload_n 1, 1) := by decide +kernel
theorem dX7_votes_2 : decode cX7_votes 2 = .ok (.invokevirtual 163, 3) := by decide +kernel
theorem dX7_votes_5 : decode cX7_votes 5 = .ok (.ifCond .ne 7, 3) := by decide +kernel
theorem dX7_votes_8 : decode cX7_votes 8 = .ok (.ldc2_w 155, 3) := by decide +kernel
theorem dX7_votes_11 : decode cX7_votes 11 = .ok (.lreturn, 1) := by decide +kernel
theorem dX7_votes_12 : decode cX7_votes 12 = .ok (.aload_n 0, 1) := by decide +kernel
theorem dX7_votes_13 : decode cX7_votes 13 = .ok (.iload_n 1, 1) := by decide +kernel
theorem dX7_votes_14 : decode cX7_votes 14 = .ok (.invokevirtual 215, 3) := by decide +kernel
theorem dX7_votes_17 : decode cX7_votes 17 = .ok (.aload_n 0, 1) := by decide +kernel
theorem dX7_votes_18 : decode cX7_votes 18 = .ok (.lload_n 2, 1) := by decide +kernel
theorem dX7_votes_19 : decode cX7_votes 19 = .ok (.invokevirtual 219, 3) := by decide +kernel
theorem dX7_votes_22 : decode cX7_votes 22 = .ok (.i2l, 1) := by decide +kernel
theorem dX7_votes_23 : decode cX7_votes 23 = .ok (.lreturn, 1) := by decide +kernel
theorem dX7_findCouncil_0 : decode cX7_findCouncil 0 = .ok (.iconst 0, 1) := by decide +kernel
theorem dX7_findCouncil_1 : decode cX7_findCouncil 1 = .ok (.istore_n 2, 1) := by decide +kernel
theorem dX7_findCouncil_2 : decode cX7_findCouncil 2 = .ok (.iconst 0, 1) := by decide +kernel
theorem dX7_findCouncil_3 : decode cX7_findCouncil 3 = .ok (.istore_n 3, 1) := by decide +kernel
theorem dX7_findCouncil_4 : decode cX7_findCouncil 4 = .ok (.iload_n 3, 1) := by decide +kernel
theorem dX7_findCouncil_5 : decode cX7_findCouncil 5 = .ok (.iconst 2, 1) := by decide +kernel
theorem dX7_findCouncil_6 : decode cX7_findCouncil 6 = .ok (.aload_n 0, 1) := by decide +kernel
theorem dX7_findCouncil_7 : decode cX7_findCouncil 7 = .ok (.getfield 212, 3) := by decide +kernel
theorem dX7_findCouncil_10 : decode cX7_findCouncil 10 = .ok (.imul, 1) := by decide +kernel
theorem dX7_findCouncil_11 : decode cX7_findCouncil 11 = .ok (.if_icmp .ge 98, 3) := by decide +kernel
theorem dX7_findCouncil_14 : decode cX7_findCouncil 14 = .ok (.iload_n 3, 1) := by decide +kernel
theorem dX7_findCouncil_15 : decode cX7_findCouncil 15 = .ok (.aload_n 0, 1) := by decide +kernel
theorem dX7_findCouncil_16 : decode cX7_findCouncil 16 = .ok (.getfield 212, 3) := by decide +kernel
theorem dX7_findCouncil_19 : decode cX7_findCouncil 19 = .ok (.if_icmp .ge 12, 3) := by decide +kernel
theorem dX7_findCouncil_22 : decode cX7_findCouncil 22 = .ok (.aload_n 0, 1) := by decide +kernel
theorem dX7_findCouncil_23 : decode cX7_findCouncil 23 = .ok (.getfield 117, 3) := by decide +kernel
theorem dX7_findCouncil_26 : decode cX7_findCouncil 26 = .ok (.iload_n 3, 1) := by decide +kernel
theorem dX7_findCouncil_27 : decode cX7_findCouncil 27 = .ok (.laload, 1) := by decide +kernel
theorem dX7_findCouncil_28 : decode cX7_findCouncil 28 = .ok (.goto 16, 3) := by decide +kernel
theorem dX7_findCouncil_31 : decode cX7_findCouncil 31 = .ok (.aload_n 0, 1) := by decide +kernel
theorem dX7_findCouncil_32 : decode cX7_findCouncil 32 = .ok (.getfield 120, 3) := by decide +kernel
theorem dX7_findCouncil_35 : decode cX7_findCouncil 35 = .ok (.iload_n 3, 1) := by decide +kernel
theorem dX7_findCouncil_36 : decode cX7_findCouncil 36 = .ok (.aload_n 0, 1) := by decide +kernel
theorem dX7_findCouncil_37 : decode cX7_findCouncil 37 = .ok (.getfield 212, 3) := by decide +kernel
theorem dX7_findCouncil_40 : decode cX7_findCouncil 40 = .ok (.isub, 1) := by decide +kernel
theorem dX7_findCouncil_41 : decode cX7_findCouncil 41 = .ok (.laload, 1) := by decide +kernel
theorem dX7_findCouncil_42 : decode cX7_findCouncil 42 = .ok (.lconst 1, 1) := by decide +kernel
theorem dX7_findCouncil_43 : decode cX7_findCouncil 43 = .ok (.ladd, 1) := by decide +kernel
theorem dX7_findCouncil_44 : decode cX7_findCouncil 44 = .ok (.lstore 4, 2) := by decide +kernel
theorem dX7_findCouncil_46 : decode cX7_findCouncil 46 = .ok (.iload_n 2, 1) := by decide +kernel
theorem dX7_findCouncil_47 : decode cX7_findCouncil 47 = .ok (.istore 6, 2) := by decide +kernel
theorem dX7_findCouncil_49 : decode cX7_findCouncil 49 = .ok (.iload 6, 2) := by decide +kernel
theorem dX7_findCouncil_51 : decode cX7_findCouncil 51 = .ok (.ifCond .le 40, 3) := by decide +kernel
theorem dX7_findCouncil_54 : decode cX7_findCouncil 54 = .ok (.aload_n 0, 1) := by decide +kernel
theorem dX7_findCouncil_55 : decode cX7_findCouncil 55 = .ok (.getfield 123, 3) := by decide +kernel
theorem dX7_findCouncil_58 : decode cX7_findCouncil 58 = .ok (.iload 6, 2) := by decide +kernel
theorem dX7_findCouncil_60 : decode cX7_findCouncil 60 = .ok (.iconst 1, 1) := by decide +kernel
theorem dX7_findCouncil_61 : decode cX7_findCouncil 61 = .ok (.isub, 1) := by decide +kernel
theorem dX7_findCouncil_62 : decode cX7_findCouncil 62 = .ok (.laload, 1) := by decide +kernel
theorem dX7_findCouncil_63 : decode cX7_findCouncil 63 = .ok (.lload 4, 2) := by decide +kernel
theorem dX7_findCouncil_65 : decode cX7_findCouncil 65 = .ok (.lcmp, 1) := by decide +kernel
theorem dX7_findCouncil_66 : decode cX7_findCouncil 66 = .ok (.ifCond .le 25, 3) := by decide +kernel
theorem dX7_findCouncil_69 : decode cX7_findCouncil 69 = .ok (.aload_n 0, 1) := by decide +kernel
theorem dX7_findCouncil_70 : decode cX7_findCouncil 70 = .ok (.getfield 123, 3) := by decide +kernel
theorem dX7_findCouncil_73 : decode cX7_findCouncil 73 = .ok (.iload 6, 2) := by decide +kernel
theorem dX7_findCouncil_75 : decode cX7_findCouncil 75 = .ok (.aload_n 0, 1) := by decide +kernel
theorem dX7_findCouncil_76 : decode cX7_findCouncil 76 = .ok (.getfield 123, 3) := by decide +kernel
theorem dX7_findCouncil_79 : decode cX7_findCouncil 79 = .ok (.iload 6, 2) := by decide +kernel
theorem dX7_findCouncil_81 : decode cX7_findCouncil 81 = .ok (.iconst 1, 1) := by decide +kernel
theorem dX7_findCouncil_82 : decode cX7_findCouncil 82 = .ok (.isub, 1) := by decide +kernel
theorem dX7_findCouncil_83 : decode cX7_findCouncil 83 = .ok (.laload, 1) := by decide +kernel
theorem dX7_findCouncil_84 : decode cX7_findCouncil 84 = .ok (.lastore, 1) := by decide +kernel
theorem dX7_findCouncil_85 : decode cX7_findCouncil 85 = .ok (.iinc 6 (-1), 3) := by decide +kernel
theorem dX7_findCouncil_88 : decode cX7_findCouncil 88 = .ok (.goto (-39), 3) := by decide +kernel
theorem dX7_findCouncil_91 : decode cX7_findCouncil 91 = .ok (.aload_n 0, 1) := by decide +kernel
theorem dX7_findCouncil_92 : decode cX7_findCouncil 92 = .ok (.getfield 123, 3) := by decide +kernel
theorem dX7_findCouncil_95 : decode cX7_findCouncil 95 = .ok (.iload 6, 2) := by decide +kernel
theorem dX7_findCouncil_97 : decode cX7_findCouncil 97 = .ok (.lload 4, 2) := by decide +kernel
theorem dX7_findCouncil_99 : decode cX7_findCouncil 99 = .ok (.lastore, 1) := by decide +kernel
theorem dX7_findCouncil_100 : decode cX7_findCouncil 100 = .ok (.iinc 2 1, 3) := by decide +kernel
theorem dX7_findCouncil_103 : decode cX7_findCouncil 103 = .ok (.iinc 3 1, 3) := by decide +kernel
theorem dX7_findCouncil_106 : decode cX7_findCouncil 106 = .ok (.goto (-102), 3) := by decide +kernel
theorem dX7_findCouncil_109 : decode cX7_findCouncil 109 = .ok (.aload_n 0, 1) := by decide +kernel
theorem dX7_findCouncil_110 : decode cX7_findCouncil 110 = .ok (.iconst 0, 1) := by decide +kernel
theorem dX7_findCouncil_111 : decode cX7_findCouncil 111 = .ok (.putfield 223, 3) := by decide +kernel
theorem dX7_findCouncil_114 : decode cX7_findCouncil 114 = .ok (.iconst 0, 1) := by decide +kernel
theorem dX7_findCouncil_115 : decode cX7_findCouncil 115 = .ok (.istore_n 3, 1) := by decide +kernel
theorem dX7_findCouncil_116 : decode cX7_findCouncil 116 = .ok (.iconst 0, 1) := by decide +kernel
theorem dX7_findCouncil_117 : decode cX7_findCouncil 117 = .ok (.istore 4, 2) := by decide +kernel
theorem dX7_findCouncil_119 : decode cX7_findCouncil 119 = .ok (.iload 4, 2) := by decide +kernel
theorem dX7_findCouncil_121 : decode cX7_findCouncil 121 = .ok (.iload_n 2, 1) := by decide +kernel
theorem dX7_findCouncil_122 : decode cX7_findCouncil 122 = .ok (.iconst 1, 1) := by decide +kernel
theorem dX7_findCouncil_123 : decode cX7_findCouncil 123 = .ok (.isub, 1) := by decide +kernel
theorem dX7_findCouncil_124 : decode cX7_findCouncil 124 = .ok (.if_icmp .ge 132, 3) := by decide +kernel
theorem dX7_findCouncil_127 : decode cX7_findCouncil 127 = .ok (.aload_n 0, 1) := by decide +kernel
theorem dX7_findCouncil_128 : decode cX7_findCouncil 128 = .ok (.getfield 123, 3) := by decide +kernel
theorem dX7_findCouncil_131 : decode cX7_findCouncil 131 = .ok (.iload 4, 2) := by decide +kernel
theorem dX7_findCouncil_133 : decode cX7_findCouncil 133 = .ok (.laload, 1) := by decide +kernel
theorem dX7_findCouncil_134 : decode cX7_findCouncil 134 = .ok (.aload_n 0, 1) := by decide +kernel
theorem dX7_findCouncil_135 : decode cX7_findCouncil 135 = .ok (.getfield 123, 3) := by decide +kernel
theorem dX7_findCouncil_138 : decode cX7_findCouncil 138 = .ok (.iload 4, 2) := by decide +kernel
theorem dX7_findCouncil_140 : decode cX7_findCouncil 140 = .ok (.iconst 1, 1) := by decide +kernel
theorem dX7_findCouncil_141 : decode cX7_findCouncil 141 = .ok (.iadd, 1) := by decide +kernel
theorem dX7_findCouncil_142 : decode cX7_findCouncil 142 = .ok (.laload, 1) := by decide +kernel
theorem dX7_findCouncil_143 : decode cX7_findCouncil 143 = .ok (.lcmp, 1) := by decide +kernel
theorem dX7_findCouncil_144 : decode cX7_findCouncil 144 = .ok (.ifCond .ge 106, 3) := by decide +kernel
theorem dX7_findCouncil_147 : decode cX7_findCouncil 147 = .ok (.aload_n 0, 1) := by decide +kernel
theorem dX7_findCouncil_148 : decode cX7_findCouncil 148 = .ok (.aload_n 0, 1) := by decide +kernel
theorem dX7_findCouncil_149 : decode cX7_findCouncil 149 = .ok (.getfield 123, 3) := by decide +kernel
theorem dX7_findCouncil_152 : decode cX7_findCouncil 152 = .ok (.iload 4, 2) := by decide +kernel
theorem dX7_findCouncil_154 : decode cX7_findCouncil 154 = .ok (.laload, 1) := by decide +kernel
theorem dX7_findCouncil_155 : decode cX7_findCouncil 155 = .ok (.invokevirtual 219, 3) := by decide +kernel
theorem dX7_findCouncil_158 : decode cX7_findCouncil 158 = .ok (.aload_n 0, 1) := by decide +kernel
theorem dX7_findCouncil_159 : decode cX7_findCouncil 159 = .ok (.getfield 212, 3) := by decide +kernel
theorem dX7_findCouncil_162 : decode cX7_findCouncil 162 = .ok (.iload_n 1, 1) := by decide +kernel
theorem dX7_findCouncil_163 : decode cX7_findCouncil 163 = .ok (.isub, 1) := by decide +kernel
theorem dX7_findCouncil_164 : decode cX7_findCouncil 164 = .ok (.if_icmp .lt 7, 3) := by decide +kernel
theorem dX7_findCouncil_167 : decode cX7_findCouncil 167 = .ok (.iconst 1, 1) := by decide +kernel
theorem dX7_findCouncil_168 : decode cX7_findCouncil 168 = .ok (.goto 4, 3) := by decide +kernel
theorem dX7_findCouncil_171 : decode cX7_findCouncil 171 = .ok (.iconst 0, 1) := by decide +kernel
theorem dX7_findCouncil_172 : decode cX7_findCouncil 172 = .ok (.istore 5, 2) := by decide +kernel
theorem dX7_findCouncil_174 : decode cX7_findCouncil 174 = .ok (.iload 5, 2) := by decide +kernel
theorem dX7_findCouncil_176 : decode cX7_findCouncil 176 = .ok (.ifCond .eq 21, 3) := by decide +kernel
theorem dX7_findCouncil_179 : decode cX7_findCouncil 179 = .ok (.aload_n 0, 1) := by decide +kernel
theorem dX7_findCouncil_180 : decode cX7_findCouncil 180 = .ok (.getfield 223, 3) := by decide +kernel
theorem dX7_findCouncil_183 : decode cX7_findCouncil 183 = .ok (.ifCond .ne 14, 3) := by decide +kernel
theorem dX7_findCouncil_186 : decode cX7_findCouncil 186 = .ok (.aload_n 0, 1) := by decide +kernel
theorem dX7_findCouncil_187 : decode cX7_findCouncil 187 = .ok (.aload_n 0, 1) := by decide +kernel
theorem dX7_findCouncil_188 : decode cX7_findCouncil 188 = .ok (.getfield 123, 3) := by decide +kernel
theorem dX7_findCouncil_191 : decode cX7_findCouncil 191 = .ok (.iload 4, 2) := by decide +kernel
theorem dX7_findCouncil_193 : decode cX7_findCouncil 193 = .ok (.laload, 1) := by decide +kernel
theorem dX7_findCouncil_194 : decode cX7_findCouncil 194 = .ok (.putfield 226, 3) := by decide +kernel
theorem dX7_findCouncil_197 : decode cX7_findCouncil 197 = .ok (.aload_n 0, 1) := by decide +kernel
theorem dX7_findCouncil_198 : decode cX7_findCouncil 198 = .ok (.dup, 1) := by decide +kernel
theorem dX7_findCouncil_199 : decode cX7_findCouncil 199 = .ok (.getfield 223, 3) := by decide +kernel
theorem dX7_findCouncil_202 : decode cX7_findCouncil 202 = .ok (.iload 5, 2) := by decide +kernel
theorem dX7_findCouncil_204 : decode cX7_findCouncil 204 = .ok (.ifCond .eq 11, 3) := by decide +kernel
theorem dX7_findCouncil_207 : decode cX7_findCouncil 207 = .ok (.iload_n 3, 1) := by decide +kernel
theorem dX7_findCouncil_208 : decode cX7_findCouncil 208 = .ok (.ifCond .ne 7, 3) := by decide +kernel
theorem dX7_findCouncil_211 : decode cX7_findCouncil 211 = .ok (.iconst 1, 1) := by decide +kernel
theorem dX7_findCouncil_212 : decode cX7_findCouncil 212 = .ok (.goto 4, 3) := by decide +kernel
theorem dX7_findCouncil_215 : decode cX7_findCouncil 215 = .ok (.iconst 0, 1) := by decide +kernel
theorem dX7_findCouncil_216 : decode cX7_findCouncil 216 = .ok (.iadd, 1) := by decide +kernel
theorem dX7_findCouncil_217 : decode cX7_findCouncil 217 = .ok (.putfield 223, 3) := by decide +kernel
theorem dX7_findCouncil_220 : decode cX7_findCouncil 220 = .ok (.aload_n 0, 1) := by decide +kernel
theorem dX7_findCouncil_221 : decode cX7_findCouncil 221 = .ok (.iload 5, 2) := by decide +kernel
theorem dX7_findCouncil_223 : decode cX7_findCouncil 223 = .ok (.ifCond .eq 17, 3) := by decide +kernel
theorem dX7_findCouncil_226 : decode cX7_findCouncil 226 = .ok (.aload_n 0, 1) := by decide +kernel
theorem dX7_findCouncil_227 : decode cX7_findCouncil 227 = .ok (.getfield 123, 3) := by decide +kernel
theorem dX7_findCouncil_230 : decode cX7_findCouncil 230 = .ok (.iload 4, 2) := by decide +kernel
theorem dX7_findCouncil_232 : decode cX7_findCouncil 232 = .ok (.iconst 1, 1) := by decide +kernel
theorem dX7_findCouncil_233 : decode cX7_findCouncil 233 = .ok (.iadd, 1) := by decide +kernel
theorem dX7_findCouncil_234 : decode cX7_findCouncil 234 = .ok (.laload, 1) := by decide +kernel
theorem dX7_findCouncil_235 : decode cX7_findCouncil 235 = .ok (.lconst 1, 1) := by decide +kernel
theorem dX7_findCouncil_236 : decode cX7_findCouncil 236 = .ok (.lsub, 1) := by decide +kernel
theorem dX7_findCouncil_237 : decode cX7_findCouncil 237 = .ok (.goto 7, 3) := by decide +kernel
theorem dX7_findCouncil_240 : decode cX7_findCouncil 240 = .ok (.aload_n 0, 1) := by decide +kernel
theorem dX7_findCouncil_241 : decode cX7_findCouncil 241 = .ok (.getfield 229, 3) := by decide +kernel
theorem dX7_findCouncil_244 : decode cX7_findCouncil 244 = .ok (.putfield 229, 3) := by decide +kernel
theorem dX7_findCouncil_247 : decode cX7_findCouncil 247 = .ok (.iload 5, 2) := by decide +kernel
theorem dX7_findCouncil_249 : decode cX7_findCouncil 249 = .ok (.istore_n 3, 1) := by decide +kernel
theorem dX7_findCouncil_250 : decode cX7_findCouncil 250 = .ok (.iinc 4 1, 3) := by decide +kernel
theorem dX7_findCouncil_253 : decode cX7_findCouncil 253 = .ok (.goto (-134), 3) := by decide +kernel
theorem dX7_findCouncil_256 : decode cX7_findCouncil 256 = .ok (.aload_n 0, 1) := by decide +kernel
theorem dX7_findCouncil_257 : decode cX7_findCouncil 257 = .ok (.lconst 0, 1) := by decide +kernel
theorem dX7_findCouncil_258 : decode cX7_findCouncil 258 = .ok (.putfield 232, 3) := by decide +kernel
theorem dX7_findCouncil_261 : decode cX7_findCouncil 261 = .ok (.iconst 0, 1) := by decide +kernel
theorem dX7_findCouncil_262 : decode cX7_findCouncil 262 = .ok (.istore 4, 2) := by decide +kernel
theorem dX7_findCouncil_264 : decode cX7_findCouncil 264 = .ok (.iload 4, 2) := by decide +kernel
theorem dX7_findCouncil_266 : decode cX7_findCouncil 266 = .ok (.aload_n 0, 1) := by decide +kernel
theorem dX7_findCouncil_267 : decode cX7_findCouncil 267 = .ok (.getfield 212, 3) := by decide +kernel
theorem dX7_findCouncil_270 : decode cX7_findCouncil 270 = .ok (.if_icmp .ge 80, 3) := by decide +kernel
theorem dX7_findCouncil_273 : decode cX7_findCouncil 273 = .ok (.aload_n 0, 1) := by decide +kernel
theorem dX7_findCouncil_274 : decode cX7_findCouncil 274 = .ok (.getfield 223, 3) := by decide +kernel
theorem dX7_findCouncil_277 : decode cX7_findCouncil 277 = .ok (.ifCond .le 73, 3) := by decide +kernel
theorem dX7_findCouncil_280 : decode cX7_findCouncil 280 = .ok (.aload_n 0, 1) := by decide +kernel
theorem dX7_findCouncil_281 : decode cX7_findCouncil 281 = .ok (.getfield 120, 3) := by decide +kernel
theorem dX7_findCouncil_284 : decode cX7_findCouncil 284 = .ok (.iload 4, 2) := by decide +kernel
theorem dX7_findCouncil_286 : decode cX7_findCouncil 286 = .ok (.laload, 1) := by decide +kernel
theorem dX7_findCouncil_287 : decode cX7_findCouncil 287 = .ok (.aload_n 0, 1) := by decide +kernel
theorem dX7_findCouncil_288 : decode cX7_findCouncil 288 = .ok (.getfield 226, 3) := by decide +kernel
theorem dX7_findCouncil_291 : decode cX7_findCouncil 291 = .ok (.lcmp, 1) := by decide +kernel
theorem dX7_findCouncil_292 : decode cX7_findCouncil 292 = .ok (.ifCond .lt 18, 3) := by decide +kernel
theorem dX7_findCouncil_295 : decode cX7_findCouncil 295 = .ok (.aload_n 0, 1) := by decide +kernel
theorem dX7_findCouncil_296 : decode cX7_findCouncil 296 = .ok (.getfield 117, 3) := by decide +kernel
theorem dX7_findCouncil_299 : decode cX7_findCouncil 299 = .ok (.iload 4, 2) := by decide +kernel
theorem dX7_findCouncil_301 : decode cX7_findCouncil 301 = .ok (.laload, 1) := by decide +kernel
theorem dX7_findCouncil_302 : decode cX7_findCouncil 302 = .ok (.aload_n 0, 1) := by decide +kernel
theorem dX7_findCouncil_303 : decode cX7_findCouncil 303 = .ok (.getfield 229, 3) := by decide +kernel
theorem dX7_findCouncil_306 : decode cX7_findCouncil 306 = .ok (.lcmp, 1) := by decide +kernel
theorem dX7_findCouncil_307 : decode cX7_findCouncil 307 = .ok (.ifCond .le 7, 3) := by decide +kernel
theorem dX7_findCouncil_310 : decode cX7_findCouncil 310 = .ok (.iconst 1, 1) := by decide +kernel
theorem dX7_findCouncil_311 : decode cX7_findCouncil 311 = .ok (.goto 4, 3) := by decide +kernel
theorem dX7_findCouncil_314 : decode cX7_findCouncil 314 = .ok (.iconst 0, 1) := by decide +kernel
theorem dX7_findCouncil_315 : decode cX7_findCouncil 315 = .ok (.istore 5, 2) := by decide +kernel
theorem dX7_findCouncil_317 : decode cX7_findCouncil 317 = .ok (.aload_n 0, 1) := by decide +kernel
theorem dX7_findCouncil_318 : decode cX7_findCouncil 318 = .ok (.dup, 1) := by decide +kernel
theorem dX7_findCouncil_319 : decode cX7_findCouncil 319 = .ok (.getfield 232, 3) := by decide +kernel
theorem dX7_findCouncil_322 : decode cX7_findCouncil 322 = .ok (.iload 5, 2) := by decide +kernel
theorem dX7_findCouncil_324 : decode cX7_findCouncil 324 = .ok (.ifCond .eq 15, 3) := by decide +kernel
theorem dX7_findCouncil_327 : decode cX7_findCouncil 327 = .ok (.lconst 1, 1) := by decide +kernel
theorem dX7_findCouncil_328 : decode cX7_findCouncil 328 = .ok (.aload_n 0, 1) := by decide +kernel
theorem dX7_findCouncil_329 : decode cX7_findCouncil 329 = .ok (.getfield 114, 3) := by decide +kernel
theorem dX7_findCouncil_332 : decode cX7_findCouncil 332 = .ok (.iload 4, 2) := by decide +kernel
theorem dX7_findCouncil_334 : decode cX7_findCouncil 334 = .ok (.iaload, 1) := by decide +kernel
theorem dX7_findCouncil_335 : decode cX7_findCouncil 335 = .ok (.lshl, 1) := by decide +kernel
theorem dX7_findCouncil_336 : decode cX7_findCouncil 336 = .ok (.goto 4, 3) := by decide +kernel
theorem dX7_findCouncil_339 : decode cX7_findCouncil 339 = .ok (.lconst 0, 1) := by decide +kernel
theorem dX7_findCouncil_340 : decode cX7_findCouncil 340 = .ok (.lor, 1) := by decide +kernel
theorem dX7_findCouncil_341 : decode cX7_findCouncil 341 = .ok (.putfield 232, 3) := by decide +kernel
theorem dX7_findCouncil_344 : decode cX7_findCouncil 344 = .ok (.iinc 4 1, 3) := by decide +kernel
theorem dX7_findCouncil_347 : decode cX7_findCouncil 347 = .ok (.goto (-83), 3) := by decide +kernel
theorem dX7_findCouncil_350 : decode cX7_findCouncil 350 = .ok (.aload_n 0, 1) := by decide +kernel
theorem dX7_findCouncil_351 : decode cX7_findCouncil 351 = .ok (.getfield 223, 3) := by decide +kernel
theorem dX7_findCouncil_354 : decode cX7_findCouncil 354 = .ok (.ifCond .le 7, 3) := by decide +kernel
theorem dX7_findCouncil_357 : decode cX7_findCouncil 357 = .ok (.iconst 1, 1) := by decide +kernel
theorem dX7_findCouncil_358 : decode cX7_findCouncil 358 = .ok (.goto 4, 3) := by decide +kernel
theorem dX7_findCouncil_361 : decode cX7_findCouncil 361 = .ok (.iconst 0, 1) := by decide +kernel
theorem dX7_findCouncil_362 : decode cX7_findCouncil 362 = .ok (.ireturn, 1) := by decide +kernel
theorem dX7_council_0 : decode cX7_council 0 = .ok (.aload_n 0, 1) := by decide +kernel
theorem dX7_council_1 : decode cX7_council 1 = .ok (.iload_n 1, 1) := by decide +kernel
theorem dX7_council_2 : decode cX7_council 2 = .ok (.invokevirtual 163, 3) := by decide +kernel
theorem dX7_council_5 : decode cX7_council 5 = .ok (.ifCond .eq 15, 3) := by decide +kernel
theorem dX7_council_8 : decode cX7_council 8 = .ok (.iload_n 3, 1) := by decide +kernel
theorem dX7_council_9 : decode cX7_council 9 = .ok (.i2l, 1) := by decide +kernel
theorem dX7_council_10 : decode cX7_council 10 = .ok (.lconst 0, 1) := by decide +kernel
theorem dX7_council_11 : decode cX7_council 11 = .ok (.ldc2_w 157, 3) := by decide +kernel
theorem dX7_council_14 : decode cX7_council 14 = .ok (.invokestatic 143, 3) := by decide +kernel
theorem dX7_council_17 : decode cX7_council 17 = .ok (.ifCond .ne 7, 3) := by decide +kernel
theorem dX7_council_20 : decode cX7_council 20 = .ok (.ldc2_w 155, 3) := by decide +kernel
theorem dX7_council_23 : decode cX7_council 23 = .ok (.lreturn, 1) := by decide +kernel
theorem dX7_council_24 : decode cX7_council 24 = .ok (.aload_n 0, 1) := by decide +kernel
theorem dX7_council_25 : decode cX7_council 25 = .ok (.iload_n 1, 1) := by decide +kernel
theorem dX7_council_26 : decode cX7_council 26 = .ok (.invokevirtual 215, 3) := by decide +kernel
theorem dX7_council_29 : decode cX7_council 29 = .ok (.iload_n 2, 1) := by decide +kernel
theorem dX7_council_30 : decode cX7_council 30 = .ok (.i2l, 1) := by decide +kernel
theorem dX7_council_31 : decode cX7_council 31 = .ok (.lconst 0, 1) := by decide +kernel
theorem dX7_council_32 : decode cX7_council 32 = .ok (.aload_n 0, 1) := by decide +kernel
theorem dX7_council_33 : decode cX7_council 33 = .ok (.getfield 212, 3) := by decide +kernel
theorem dX7_council_36 : decode cX7_council 36 = .ok (.i2l, 1) := by decide +kernel
theorem dX7_council_37 : decode cX7_council 37 = .ok (.lconst 1, 1) := by decide +kernel
theorem dX7_council_38 : decode cX7_council 38 = .ok (.lsub, 1) := by decide +kernel
theorem dX7_council_39 : decode cX7_council 39 = .ok (.invokestatic 143, 3) := by decide +kernel
theorem dX7_council_42 : decode cX7_council 42 = .ok (.ifCond .ne 7, 3) := by decide +kernel
theorem dX7_council_45 : decode cX7_council 45 = .ok (.ldc2_w 155, 3) := by decide +kernel
theorem dX7_council_48 : decode cX7_council 48 = .ok (.lreturn, 1) := by decide +kernel
theorem dX7_council_49 : decode cX7_council 49 = .ok (.aload_n 0, 1) := by decide +kernel
theorem dX7_council_50 : decode cX7_council 50 = .ok (.iload_n 2, 1) := by decide +kernel
theorem dX7_council_51 : decode cX7_council 51 = .ok (.invokevirtual 235, 3) := by decide +kernel
theorem dX7_council_54 : decode cX7_council 54 = .ok (.istore 4, 2) := by decide +kernel
theorem dX7_council_56 : decode cX7_council 56 = .ok (.iload_n 3, 1) := by decide +kernel
theorem dX7_council_57 : decode cX7_council 57 = .ok (.iconst 2, 1) := by decide +kernel
theorem dX7_council_58 : decode cX7_council 58 = .ok (.if_icmp .ge 21, 3) := by decide +kernel
theorem dX7_council_61 : decode cX7_council 61 = .ok (.iload_n 3, 1) := by decide +kernel
theorem dX7_council_62 : decode cX7_council 62 = .ok (.ifCond .ne 11, 3) := by decide +kernel
theorem dX7_council_65 : decode cX7_council 65 = .ok (.aload_n 0, 1) := by decide +kernel
theorem dX7_council_66 : decode cX7_council 66 = .ok (.getfield 212, 3) := by decide +kernel
theorem dX7_council_69 : decode cX7_council 69 = .ok (.i2l, 1) := by decide +kernel
theorem dX7_council_70 : decode cX7_council 70 = .ok (.goto 8, 3) := by decide +kernel
theorem dX7_council_73 : decode cX7_council 73 = .ok (.aload_n 0, 1) := by decide +kernel
theorem dX7_council_74 : decode cX7_council 74 = .ok (.getfield 223, 3) := by decide +kernel
theorem dX7_council_77 : decode cX7_council 77 = .ok (.i2l, 1) := by decide +kernel
theorem dX7_council_78 : decode cX7_council 78 = .ok (.lreturn, 1) := by decide +kernel
theorem dX7_council_79 : decode cX7_council 79 = .ok (.iload 4, 2) := by decide +kernel
theorem dX7_council_81 : decode cX7_council 81 = .ok (.ifCond .ne 9, 3) := by decide +kernel
theorem dX7_council_84 : decode cX7_council 84 = .ok (.ldc2_w 155, 3) := by decide +kernel
theorem dX7_council_87 : decode cX7_council 87 = .ok (.goto 31, 3) := by decide +kernel
theorem dX7_council_90 : decode cX7_council 90 = .ok (.iload_n 3, 1) := by decide +kernel
theorem dX7_council_91 : decode cX7_council 91 = .ok (.iconst 2, 1) := by decide +kernel
theorem dX7_council_92 : decode cX7_council 92 = .ok (.if_icmp .ne 10, 3) := by decide +kernel
theorem dX7_council_95 : decode cX7_council 95 = .ok (.aload_n 0, 1) := by decide +kernel
theorem dX7_council_96 : decode cX7_council 96 = .ok (.getfield 226, 3) := by decide +kernel
theorem dX7_council_99 : decode cX7_council 99 = .ok (.goto 19, 3) := by decide +kernel
theorem dX7_council_102 : decode cX7_council 102 = .ok (.iload_n 3, 1) := by decide +kernel
theorem dX7_council_103 : decode cX7_council 103 = .ok (.iconst 3, 1) := by decide +kernel
theorem dX7_council_104 : decode cX7_council 104 = .ok (.if_icmp .ne 10, 3) := by decide +kernel
theorem dX7_council_107 : decode cX7_council 107 = .ok (.aload_n 0, 1) := by decide +kernel
theorem dX7_council_108 : decode cX7_council 108 = .ok (.getfield 229, 3) := by decide +kernel
theorem dX7_council_111 : decode cX7_council 111 = .ok (.goto 7, 3) := by decide +kernel
theorem dX7_council_114 : decode cX7_council 114 = .ok (.aload_n 0, 1) := by decide +kernel
theorem dX7_council_115 : decode cX7_council 115 = .ok (.getfield 232, 3) := by decide +kernel
theorem dX7_council_118 : decode cX7_council 118 = .ok (.lreturn, 1) := by decide +kernel
theorem dX7_meet_0 : decode cX7_meet 0 = .ok (.aload_n 0, 1) := by decide +kernel
theorem dX7_meet_1 : decode cX7_meet 1 = .ok (.iload_n 1, 1) := by decide +kernel
theorem dX7_meet_2 : decode cX7_meet 2 = .ok (.invokevirtual 163, 3) := by decide +kernel
theorem dX7_meet_5 : decode cX7_meet 5 = .ok (.ifCond .eq 22, 3) := by decide +kernel
theorem dX7_meet_8 : decode cX7_meet 8 = .ok (.aload_n 0, 1) := by decide +kernel
theorem dX7_meet_9 : decode cX7_meet 9 = .ok (.getfield 7, 3) := by decide +kernel
theorem dX7_meet_12 : decode cX7_meet 12 = .ok (.iload_n 1, 1) := by decide +kernel
theorem dX7_meet_13 : decode cX7_meet 13 = .ok (.iaload, 1) := by decide +kernel
theorem dX7_meet_14 : decode cX7_meet 14 = .ok (.iconst 2, 1) := by decide +kernel
theorem dX7_meet_15 : decode cX7_meet 15 = .ok (.if_icmp .lt 12, 3) := by decide +kernel
theorem dX7_meet_18 : decode cX7_meet 18 = .ok (.aload_n 0, 1) := by decide +kernel
theorem dX7_meet_19 : decode cX7_meet 19 = .ok (.getfield 44, 3) := by decide +kernel
theorem dX7_meet_22 : decode cX7_meet 22 = .ok (.iload_n 1, 1) := by decide +kernel
theorem dX7_meet_23 : decode cX7_meet 23 = .ok (.baload, 1) := by decide +kernel
theorem dX7_meet_24 : decode cX7_meet 24 = .ok (.ifCond .eq 7, 3) := by decide +kernel
theorem dX7_meet_27 : decode cX7_meet 27 = .ok (.ldc2_w 155, 3) := by decide +kernel
theorem dX7_meet_30 : decode cX7_meet 30 = .ok (.lreturn, 1) := by decide +kernel
theorem dX7_meet_31 : decode cX7_meet 31 = .ok (.aload_n 0, 1) := by decide +kernel
theorem dX7_meet_32 : decode cX7_meet 32 = .ok (.iload_n 1, 1) := by decide +kernel
theorem dX7_meet_33 : decode cX7_meet 33 = .ok (.invokevirtual 215, 3) := by decide +kernel
theorem dX7_meet_36 : decode cX7_meet 36 = .ok (.iload_n 2, 1) := by decide +kernel
theorem dX7_meet_37 : decode cX7_meet 37 = .ok (.i2l, 1) := by decide +kernel
theorem dX7_meet_38 : decode cX7_meet 38 = .ok (.lconst 0, 1) := by decide +kernel
theorem dX7_meet_39 : decode cX7_meet 39 = .ok (.aload_n 0, 1) := by decide +kernel
theorem dX7_meet_40 : decode cX7_meet 40 = .ok (.getfield 212, 3) := by decide +kernel
theorem dX7_meet_43 : decode cX7_meet 43 = .ok (.i2l, 1) := by decide +kernel
theorem dX7_meet_44 : decode cX7_meet 44 = .ok (.lconst 1, 1) := by decide +kernel
theorem dX7_meet_45 : decode cX7_meet 45 = .ok (.lsub, 1) := by decide +kernel
theorem dX7_meet_46 : decode cX7_meet 46 = .ok (.invokestatic 143, 3) := by decide +kernel
theorem dX7_meet_49 : decode cX7_meet 49 = .ok (.ifCond .eq 11, 3) := by decide +kernel
theorem dX7_meet_52 : decode cX7_meet 52 = .ok (.aload_n 0, 1) := by decide +kernel
theorem dX7_meet_53 : decode cX7_meet 53 = .ok (.iload_n 2, 1) := by decide +kernel
theorem dX7_meet_54 : decode cX7_meet 54 = .ok (.invokevirtual 235, 3) := by decide +kernel
theorem dX7_meet_57 : decode cX7_meet 57 = .ok (.ifCond .ne 7, 3) := by decide +kernel
theorem dX7_meet_60 : decode cX7_meet 60 = .ok (.ldc2_w 155, 3) := by decide +kernel
theorem dX7_meet_63 : decode cX7_meet 63 = .ok (.lreturn, 1) := by decide +kernel
theorem dX7_meet_64 : decode cX7_meet 64 = .ok (.iconst 0, 1) := by decide +kernel
theorem dX7_meet_65 : decode cX7_meet 65 = .ok (.istore_n 3, 1) := by decide +kernel
theorem dX7_meet_66 : decode cX7_meet 66 = .ok (.iload_n 3, 1) := by decide +kernel
theorem dX7_meet_67 : decode cX7_meet 67 = .ok (.aload_n 0, 1) := by decide +kernel
theorem dX7_meet_68 : decode cX7_meet 68 = .ok (.getfield 212, 3) := by decide +kernel
theorem dX7_meet_71 : decode cX7_meet 71 = .ok (.if_icmp .ge 61, 3) := by decide +kernel
theorem dX7_meet_74 : decode cX7_meet 74 = .ok (.aload_n 0, 1) := by decide +kernel
theorem dX7_meet_75 : decode cX7_meet 75 = .ok (.getfield 57, 3) := by decide +kernel
theorem dX7_meet_78 : decode cX7_meet 78 = .ok (.aload_n 0, 1) := by decide +kernel
theorem dX7_meet_79 : decode cX7_meet 79 = .ok (.getfield 114, 3) := by decide +kernel
theorem dX7_meet_82 : decode cX7_meet 82 = .ok (.iload_n 3, 1) := by decide +kernel
theorem dX7_meet_83 : decode cX7_meet 83 = .ok (.iaload, 1) := by decide +kernel
theorem dX7_meet_84 : decode cX7_meet 84 = .ok (.dup2, 1) := by decide +kernel
theorem dX7_meet_85 : decode cX7_meet 85 = .ok (.iaload, 1) := by decide +kernel
theorem dX7_meet_86 : decode cX7_meet 86 = .ok (.iconst 1, 1) := by decide +kernel
theorem dX7_meet_87 : decode cX7_meet 87 = .ok (.iadd, 1) := by decide +kernel
theorem dX7_meet_88 : decode cX7_meet 88 = .ok (.iastore, 1) := by decide +kernel
theorem dX7_meet_89 : decode cX7_meet 89 = .ok (.aload_n 0, 1) := by decide +kernel
theorem dX7_meet_90 : decode cX7_meet 90 = .ok (.getfield 54, 3) := by decide +kernel
theorem dX7_meet_93 : decode cX7_meet 93 = .ok (.aload_n 0, 1) := by decide +kernel
theorem dX7_meet_94 : decode cX7_meet 94 = .ok (.getfield 114, 3) := by decide +kernel
theorem dX7_meet_97 : decode cX7_meet 97 = .ok (.iload_n 3, 1) := by decide +kernel
theorem dX7_meet_98 : decode cX7_meet 98 = .ok (.iaload, 1) := by decide +kernel
theorem dX7_meet_99 : decode cX7_meet 99 = .ok (.dup2, 1) := by decide +kernel
theorem dX7_meet_100 : decode cX7_meet 100 = .ok (.iaload, 1) := by decide +kernel
theorem dX7_meet_101 : decode cX7_meet 101 = .ok (.aload_n 0, 1) := by decide +kernel
theorem dX7_meet_102 : decode cX7_meet 102 = .ok (.getfield 232, 3) := by decide +kernel
theorem dX7_meet_105 : decode cX7_meet 105 = .ok (.aload_n 0, 1) := by decide +kernel
theorem dX7_meet_106 : decode cX7_meet 106 = .ok (.getfield 114, 3) := by decide +kernel
theorem dX7_meet_109 : decode cX7_meet 109 = .ok (.iload_n 3, 1) := by decide +kernel
theorem dX7_meet_110 : decode cX7_meet 110 = .ok (.iaload, 1) := by decide +kernel
theorem dX7_meet_111 : decode cX7_meet 111 = .ok (.lshr, 1) := by decide +kernel
theorem dX7_meet_112 : decode cX7_meet 112 = .ok (.lconst 1, 1) := by decide +kernel
theorem dX7_meet_113 : decode cX7_meet 113 = .ok (.land, 1) := by decide +kernel
theorem dX7_meet_114 : decode cX7_meet 114 = .ok (.lconst 1, 1) := by decide +kernel
theorem dX7_meet_115 : decode cX7_meet 115 = .ok (.lcmp, 1) := by decide +kernel
theorem dX7_meet_116 : decode cX7_meet 116 = .ok (.ifCond .ne 7, 3) := by decide +kernel
theorem dX7_meet_119 : decode cX7_meet 119 = .ok (.iconst 1, 1) := by decide +kernel
theorem dX7_meet_120 : decode cX7_meet 120 = .ok (.goto 4, 3) := by decide +kernel
theorem dX7_meet_123 : decode cX7_meet 123 = .ok (.iconst 0, 1) := by decide +kernel
theorem dX7_meet_124 : decode cX7_meet 124 = .ok (.iadd, 1) := by decide +kernel
theorem dX7_meet_125 : decode cX7_meet 125 = .ok (.iastore, 1) := by decide +kernel
theorem dX7_meet_126 : decode cX7_meet 126 = .ok (.iinc 3 1, 3) := by decide +kernel
theorem dX7_meet_129 : decode cX7_meet 129 = .ok (.goto (-63), 3) := by decide +kernel
theorem dX7_meet_132 : decode cX7_meet 132 = .ok (.aload_n 0, 1) := by decide +kernel
theorem dX7_meet_133 : decode cX7_meet 133 = .ok (.getfield 29, 3) := by decide +kernel
theorem dX7_meet_136 : decode cX7_meet 136 = .ok (.iload_n 1, 1) := by decide +kernel
theorem dX7_meet_137 : decode cX7_meet 137 = .ok (.aload_n 0, 1) := by decide +kernel
theorem dX7_meet_138 : decode cX7_meet 138 = .ok (.getfield 226, 3) := by decide +kernel
theorem dX7_meet_141 : decode cX7_meet 141 = .ok (.lastore, 1) := by decide +kernel
theorem dX7_meet_142 : decode cX7_meet 142 = .ok (.aload_n 0, 1) := by decide +kernel
theorem dX7_meet_143 : decode cX7_meet 143 = .ok (.getfield 32, 3) := by decide +kernel
theorem dX7_meet_146 : decode cX7_meet 146 = .ok (.iload_n 1, 1) := by decide +kernel
theorem dX7_meet_147 : decode cX7_meet 147 = .ok (.aload_n 0, 1) := by decide +kernel
theorem dX7_meet_148 : decode cX7_meet 148 = .ok (.getfield 229, 3) := by decide +kernel
theorem dX7_meet_151 : decode cX7_meet 151 = .ok (.lastore, 1) := by decide +kernel
theorem dX7_meet_152 : decode cX7_meet 152 = .ok (.aload_n 0, 1) := by decide +kernel
theorem dX7_meet_153 : decode cX7_meet 153 = .ok (.getfield 35, 3) := by decide +kernel
theorem dX7_meet_156 : decode cX7_meet 156 = .ok (.iload_n 1, 1) := by decide +kernel
theorem dX7_meet_157 : decode cX7_meet 157 = .ok (.aload_n 0, 1) := by decide +kernel
theorem dX7_meet_158 : decode cX7_meet 158 = .ok (.iload_n 1, 1) := by decide +kernel
theorem dX7_meet_159 : decode cX7_meet 159 = .ok (.invokevirtual 173, 3) := by decide +kernel
theorem dX7_meet_162 : decode cX7_meet 162 = .ok (.lastore, 1) := by decide +kernel
theorem dX7_meet_163 : decode cX7_meet 163 = .ok (.iconst 0, 1) := by decide +kernel
theorem dX7_meet_164 : decode cX7_meet 164 = .ok (.istore_n 3, 1) := by decide +kernel
theorem dX7_meet_165 : decode cX7_meet 165 = .ok (.iload_n 3, 1) := by decide +kernel
theorem dX7_meet_166 : decode cX7_meet 166 = .ok (.bipush 10, 2) := by decide +kernel
theorem dX7_meet_168 : decode cX7_meet 168 = .ok (.if_icmp .ge 21, 3) := by decide +kernel
theorem dX7_meet_171 : decode cX7_meet 171 = .ok (.aload_n 0, 1) := by decide +kernel
theorem dX7_meet_172 : decode cX7_meet 172 = .ok (.getfield 60, 3) := by decide +kernel
theorem dX7_meet_175 : decode cX7_meet 175 = .ok (.bipush 10, 2) := by decide +kernel
theorem dX7_meet_177 : decode cX7_meet 177 = .ok (.iload_n 1, 1) := by decide +kernel
theorem dX7_meet_178 : decode cX7_meet 178 = .ok (.imul, 1) := by decide +kernel
theorem dX7_meet_179 : decode cX7_meet 179 = .ok (.iload_n 3, 1) := by decide +kernel
theorem dX7_meet_180 : decode cX7_meet 180 = .ok (.iadd, 1) := by decide +kernel
theorem dX7_meet_181 : decode cX7_meet 181 = .ok (.iconst 0, 1) := by decide +kernel
theorem dX7_meet_182 : decode cX7_meet 182 = .ok (.bastore, 1) := by decide +kernel
theorem dX7_meet_183 : decode cX7_meet 183 = .ok (.iinc 3 1, 3) := by decide +kernel
theorem dX7_meet_186 : decode cX7_meet 186 = .ok (.goto (-21), 3) := by decide +kernel
theorem dX7_meet_189 : decode cX7_meet 189 = .ok (.aload_n 0, 1) := by decide +kernel
theorem dX7_meet_190 : decode cX7_meet 190 = .ok (.getfield 232, 3) := by decide +kernel
theorem dX7_meet_193 : decode cX7_meet 193 = .ok (.lreturn, 1) := by decide +kernel
theorem dX7_lead_0 : decode cX7_lead 0 = .ok (.aload_n 0, 1) := by decide +kernel
theorem dX7_lead_1 : decode cX7_lead 1 = .ok (.iload_n 1, 1) := by decide +kernel
theorem dX7_lead_2 : decode cX7_lead 2 = .ok (.invokevirtual 163, 3) := by decide +kernel
theorem dX7_lead_5 : decode cX7_lead 5 = .ok (.ifCond .eq 24, 3) := by decide +kernel
theorem dX7_lead_8 : decode cX7_lead 8 = .ok (.iload_n 2, 1) := by decide +kernel
theorem dX7_lead_9 : decode cX7_lead 9 = .ok (.i2l, 1) := by decide +kernel
theorem dX7_lead_10 : decode cX7_lead 10 = .ok (.lconst 0, 1) := by decide +kernel
theorem dX7_lead_11 : decode cX7_lead 11 = .ok (.ldc2_w 167, 3) := by decide +kernel
theorem dX7_lead_14 : decode cX7_lead 14 = .ok (.invokestatic 143, 3) := by decide +kernel
theorem dX7_lead_17 : decode cX7_lead 17 = .ok (.ifCond .eq 12, 3) := by decide +kernel
theorem dX7_lead_20 : decode cX7_lead 20 = .ok (.aload_n 0, 1) := by decide +kernel
theorem dX7_lead_21 : decode cX7_lead 21 = .ok (.getfield 44, 3) := by decide +kernel
theorem dX7_lead_24 : decode cX7_lead 24 = .ok (.iload_n 1, 1) := by decide +kernel
theorem dX7_lead_25 : decode cX7_lead 25 = .ok (.baload, 1) := by decide +kernel
theorem dX7_lead_26 : decode cX7_lead 26 = .ok (.ifCond .eq 7, 3) := by decide +kernel
theorem dX7_lead_29 : decode cX7_lead 29 = .ok (.ldc2_w 155, 3) := by decide +kernel
theorem dX7_lead_32 : decode cX7_lead 32 = .ok (.lreturn, 1) := by decide +kernel
theorem dX7_lead_33 : decode cX7_lead 33 = .ok (.aload_n 0, 1) := by decide +kernel
theorem dX7_lead_34 : decode cX7_lead 34 = .ok (.iload_n 1, 1) := by decide +kernel
theorem dX7_lead_35 : decode cX7_lead 35 = .ok (.invokevirtual 173, 3) := by decide +kernel
theorem dX7_lead_38 : decode cX7_lead 38 = .ok (.aload_n 0, 1) := by decide +kernel
theorem dX7_lead_39 : decode cX7_lead 39 = .ok (.getfield 51, 3) := by decide +kernel
theorem dX7_lead_42 : decode cX7_lead 42 = .ok (.iload_n 1, 1) := by decide +kernel
theorem dX7_lead_43 : decode cX7_lead 43 = .ok (.laload, 1) := by decide +kernel
theorem dX7_lead_44 : decode cX7_lead 44 = .ok (.lsub, 1) := by decide +kernel
theorem dX7_lead_45 : decode cX7_lead 45 = .ok (.lstore_n 3, 1) := by decide +kernel
theorem dX7_lead_46 : decode cX7_lead 46 = .ok (.lload_n 3, 1) := by decide +kernel
theorem dX7_lead_47 : decode cX7_lead 47 = .ok (.iload_n 2, 1) := by decide +kernel
theorem dX7_lead_48 : decode cX7_lead 48 = .ok (.i2l, 1) := by decide +kernel
theorem dX7_lead_49 : decode cX7_lead 49 = .ok (.lmul, 1) := by decide +kernel
theorem dX7_lead_50 : decode cX7_lead 50 = .ok (.ldc2_w 167, 3) := by decide +kernel
theorem dX7_lead_53 : decode cX7_lead 53 = .ok (.invokestatic 135, 3) := by decide +kernel
theorem dX7_lead_56 : decode cX7_lead 56 = .ok (.lstore 5, 2) := by decide +kernel
theorem dX7_lead_58 : decode cX7_lead 58 = .ok (.aload_n 0, 1) := by decide +kernel
theorem dX7_lead_59 : decode cX7_lead 59 = .ok (.iload_n 1, 1) := by decide +kernel
theorem dX7_lead_60 : decode cX7_lead 60 = .ok (.invokevirtual 187, 3) := by decide +kernel
theorem dX7_lead_63 : decode cX7_lead 63 = .ok (.aload_n 0, 1) := by decide +kernel
theorem dX7_lead_64 : decode cX7_lead 64 = .ok (.iload_n 1, 1) := by decide +kernel
theorem dX7_lead_65 : decode cX7_lead 65 = .ok (.invokevirtual 190, 3) := by decide +kernel
theorem dX7_lead_68 : decode cX7_lead 68 = .ok (.ladd, 1) := by decide +kernel
theorem dX7_lead_69 : decode cX7_lead 69 = .ok (.ldc2_w 203, 3) := by decide +kernel
theorem dX7_lead_72 : decode cX7_lead 72 = .ok (.invokestatic 135, 3) := by decide +kernel
theorem dX7_lead_75 : decode cX7_lead 75 = .ok (.aload_n 0, 1) := by decide +kernel
theorem dX7_lead_76 : decode cX7_lead 76 = .ok (.getfield 48, 3) := by decide +kernel
theorem dX7_lead_79 : decode cX7_lead 79 = .ok (.iload_n 1, 1) := by decide +kernel
theorem dX7_lead_80 : decode cX7_lead 80 = .ok (.laload, 1) := by decide +kernel
theorem dX7_lead_81 : decode cX7_lead 81 = .ok (.lsub, 1) := by decide +kernel
theorem dX7_lead_82 : decode cX7_lead 82 = .ok (.lstore 7, 2) := by decide +kernel
theorem dX7_lead_84 : decode cX7_lead 84 = .ok (.lload 7, 2) := by decide +kernel
theorem dX7_lead_86 : decode cX7_lead 86 = .ok (.lload_n 3, 1) := by decide +kernel
theorem dX7_lead_87 : decode cX7_lead 87 = .ok (.lload 5, 2) := by decide +kernel
theorem dX7_lead_89 : decode cX7_lead 89 = .ok (.lsub, 1) := by decide +kernel
theorem dX7_lead_90 : decode cX7_lead 90 = .ok (.lcmp, 1) := by decide +kernel
theorem dX7_lead_91 : decode cX7_lead 91 = .ok (.ifCond .ge 10, 3) := by decide +kernel
theorem dX7_lead_94 : decode cX7_lead 94 = .ok (.lload_n 3, 1) := by decide +kernel
theorem dX7_lead_95 : decode cX7_lead 95 = .ok (.lload 5, 2) := by decide +kernel
theorem dX7_lead_97 : decode cX7_lead 97 = .ok (.lsub, 1) := by decide +kernel
theorem dX7_lead_98 : decode cX7_lead 98 = .ok (.goto 22, 3) := by decide +kernel
theorem dX7_lead_101 : decode cX7_lead 101 = .ok (.lload 7, 2) := by decide +kernel
theorem dX7_lead_103 : decode cX7_lead 103 = .ok (.lload_n 3, 1) := by decide +kernel
theorem dX7_lead_104 : decode cX7_lead 104 = .ok (.lload 5, 2) := by decide +kernel
theorem dX7_lead_106 : decode cX7_lead 106 = .ok (.ladd, 1) := by decide +kernel
theorem dX7_lead_107 : decode cX7_lead 107 = .ok (.lcmp, 1) := by decide +kernel
theorem dX7_lead_108 : decode cX7_lead 108 = .ok (.ifCond .le 10, 3) := by decide +kernel
theorem dX7_lead_111 : decode cX7_lead 111 = .ok (.lload_n 3, 1) := by decide +kernel
theorem dX7_lead_112 : decode cX7_lead 112 = .ok (.lload 5, 2) := by decide +kernel
theorem dX7_lead_114 : decode cX7_lead 114 = .ok (.ladd, 1) := by decide +kernel
theorem dX7_lead_115 : decode cX7_lead 115 = .ok (.goto 5, 3) := by decide +kernel
theorem dX7_lead_118 : decode cX7_lead 118 = .ok (.lload 7, 2) := by decide +kernel
theorem dX7_lead_120 : decode cX7_lead 120 = .ok (.lstore 7, 2) := by decide +kernel
theorem dX7_lead_122 : decode cX7_lead 122 = .ok (.aload_n 0, 1) := by decide +kernel
theorem dX7_lead_123 : decode cX7_lead 123 = .ok (.getfield 48, 3) := by decide +kernel
theorem dX7_lead_126 : decode cX7_lead 126 = .ok (.iload_n 1, 1) := by decide +kernel
theorem dX7_lead_127 : decode cX7_lead 127 = .ok (.dup2, 1) := by decide +kernel
theorem dX7_lead_128 : decode cX7_lead 128 = .ok (.laload, 1) := by decide +kernel
theorem dX7_lead_129 : decode cX7_lead 129 = .ok (.lload 7, 2) := by decide +kernel
theorem dX7_lead_131 : decode cX7_lead 131 = .ok (.ladd, 1) := by decide +kernel
theorem dX7_lead_132 : decode cX7_lead 132 = .ok (.lastore, 1) := by decide +kernel
theorem dX7_lead_133 : decode cX7_lead 133 = .ok (.aload_n 0, 1) := by decide +kernel
theorem dX7_lead_134 : decode cX7_lead 134 = .ok (.getfield 51, 3) := by decide +kernel
theorem dX7_lead_137 : decode cX7_lead 137 = .ok (.iload_n 1, 1) := by decide +kernel
theorem dX7_lead_138 : decode cX7_lead 138 = .ok (.aload_n 0, 1) := by decide +kernel
theorem dX7_lead_139 : decode cX7_lead 139 = .ok (.iload_n 1, 1) := by decide +kernel
theorem dX7_lead_140 : decode cX7_lead 140 = .ok (.invokevirtual 173, 3) := by decide +kernel
theorem dX7_lead_143 : decode cX7_lead 143 = .ok (.lastore, 1) := by decide +kernel
theorem dX7_lead_144 : decode cX7_lead 144 = .ok (.aload_n 0, 1) := by decide +kernel
theorem dX7_lead_145 : decode cX7_lead 145 = .ok (.getfield 48, 3) := by decide +kernel
theorem dX7_lead_148 : decode cX7_lead 148 = .ok (.iload_n 1, 1) := by decide +kernel
theorem dX7_lead_149 : decode cX7_lead 149 = .ok (.laload, 1) := by decide +kernel
theorem dX7_lead_150 : decode cX7_lead 150 = .ok (.lreturn, 1) := by decide +kernel
theorem dX7_stamp_0 : decode cX7_stamp 0 = .ok (.aload_n 0, 1) := by decide +kernel
theorem dX7_stamp_1 : decode cX7_stamp 1 = .ok (.iload_n 1, 1) := by decide +kernel
theorem dX7_stamp_2 : decode cX7_stamp 2 = .ok (.invokevirtual 163, 3) := by decide +kernel
theorem dX7_stamp_5 : decode cX7_stamp 5 = .ok (.ifCond .eq 12, 3) := by decide +kernel
theorem dX7_stamp_8 : decode cX7_stamp 8 = .ok (.aload_n 0, 1) := by decide +kernel
theorem dX7_stamp_9 : decode cX7_stamp 9 = .ok (.getfield 238, 3) := by decide +kernel
theorem dX7_stamp_12 : decode cX7_stamp 12 = .ok (.bipush 100, 2) := by decide +kernel
theorem dX7_stamp_14 : decode cX7_stamp 14 = .ok (.if_icmp .ne 7, 3) := by decide +kernel
theorem dX7_stamp_17 : decode cX7_stamp 17 = .ok (.ldc2_w 155, 3) := by decide +kernel
theorem dX7_stamp_20 : decode cX7_stamp 20 = .ok (.lreturn, 1) := by decide +kernel
theorem dX7_stamp_21 : decode cX7_stamp 21 = .ok (.aload_n 0, 1) := by decide +kernel
theorem dX7_stamp_22 : decode cX7_stamp 22 = .ok (.getfield 93, 3) := by decide +kernel
theorem dX7_stamp_25 : decode cX7_stamp 25 = .ok (.aload_n 0, 1) := by decide +kernel
theorem dX7_stamp_26 : decode cX7_stamp 26 = .ok (.getfield 238, 3) := by decide +kernel
theorem dX7_stamp_29 : decode cX7_stamp 29 = .ok (.aload_n 0, 1) := by decide +kernel
theorem dX7_stamp_30 : decode cX7_stamp 30 = .ok (.iload_n 1, 1) := by decide +kernel
theorem dX7_stamp_31 : decode cX7_stamp 31 = .ok (.invokevirtual 187, 3) := by decide +kernel
theorem dX7_stamp_34 : decode cX7_stamp 34 = .ok (.lastore, 1) := by decide +kernel
theorem dX7_stamp_35 : decode cX7_stamp 35 = .ok (.aload_n 0, 1) := by decide +kernel
theorem dX7_stamp_36 : decode cX7_stamp 36 = .ok (.getfield 96, 3) := by decide +kernel
theorem dX7_stamp_39 : decode cX7_stamp 39 = .ok (.aload_n 0, 1) := by decide +kernel
theorem dX7_stamp_40 : decode cX7_stamp 40 = .ok (.getfield 238, 3) := by decide +kernel
theorem dX7_stamp_43 : decode cX7_stamp 43 = .ok (.aload_n 0, 1) := by decide +kernel
theorem dX7_stamp_44 : decode cX7_stamp 44 = .ok (.iload_n 1, 1) := by decide +kernel
theorem dX7_stamp_45 : decode cX7_stamp 45 = .ok (.invokevirtual 190, 3) := by decide +kernel
theorem dX7_stamp_48 : decode cX7_stamp 48 = .ok (.lastore, 1) := by decide +kernel
theorem dX7_stamp_49 : decode cX7_stamp 49 = .ok (.aload_n 0, 1) := by decide +kernel
theorem dX7_stamp_50 : decode cX7_stamp 50 = .ok (.getfield 99, 3) := by decide +kernel
theorem dX7_stamp_53 : decode cX7_stamp 53 = .ok (.aload_n 0, 1) := by decide +kernel
theorem dX7_stamp_54 : decode cX7_stamp 54 = .ok (.getfield 238, 3) := by decide +kernel
theorem dX7_stamp_57 : decode cX7_stamp 57 = .ok (.iload_n 1, 1) := by decide +kernel
theorem dX7_stamp_58 : decode cX7_stamp 58 = .ok (.iastore, 1) := by decide +kernel
theorem dX7_stamp_59 : decode cX7_stamp 59 = .ok (.aload_n 0, 1) := by decide +kernel
theorem dX7_stamp_60 : decode cX7_stamp 60 = .ok (.getfield 102, 3) := by decide +kernel
theorem dX7_stamp_63 : decode cX7_stamp 63 = .ok (.aload_n 0, 1) := by decide +kernel
theorem dX7_stamp_64 : decode cX7_stamp 64 = .ok (.getfield 238, 3) := by decide +kernel
theorem dX7_stamp_67 : decode cX7_stamp 67 = .ok (.aload_n 0, 1) := by decide +kernel
theorem dX7_stamp_68 : decode cX7_stamp 68 = .ok (.getfield 149, 3) := by decide +kernel
theorem dX7_stamp_71 : decode cX7_stamp 71 = .ok (.aload_n 0, 1) := by decide +kernel
theorem dX7_stamp_72 : decode cX7_stamp 72 = .ok (.iload_n 1, 1) := by decide +kernel
theorem dX7_stamp_73 : decode cX7_stamp 73 = .ok (.invokevirtual 187, 3) := by decide +kernel
theorem dX7_stamp_76 : decode cX7_stamp 76 = .ok (.aload_n 0, 1) := by decide +kernel
theorem dX7_stamp_77 : decode cX7_stamp 77 = .ok (.iload_n 1, 1) := by decide +kernel
theorem dX7_stamp_78 : decode cX7_stamp 78 = .ok (.invokevirtual 190, 3) := by decide +kernel
theorem dX7_stamp_81 : decode cX7_stamp 81 = .ok (.invokestatic 143, 3) := by decide +kernel
theorem dX7_stamp_84 : decode cX7_stamp 84 = .ok (.bastore, 1) := by decide +kernel
theorem dX7_stamp_85 : decode cX7_stamp 85 = .ok (.aload_n 0, 1) := by decide +kernel
theorem dX7_stamp_86 : decode cX7_stamp 86 = .ok (.dup, 1) := by decide +kernel
theorem dX7_stamp_87 : decode cX7_stamp 87 = .ok (.getfield 238, 3) := by decide +kernel
theorem dX7_stamp_90 : decode cX7_stamp 90 = .ok (.iconst 1, 1) := by decide +kernel
theorem dX7_stamp_91 : decode cX7_stamp 91 = .ok (.iadd, 1) := by decide +kernel
theorem dX7_stamp_92 : decode cX7_stamp 92 = .ok (.putfield 238, 3) := by decide +kernel
theorem dX7_stamp_95 : decode cX7_stamp 95 = .ok (.aload_n 0, 1) := by decide +kernel
theorem dX7_stamp_96 : decode cX7_stamp 96 = .ok (.getfield 238, 3) := by decide +kernel
theorem dX7_stamp_99 : decode cX7_stamp 99 = .ok (.iconst 1, 1) := by decide +kernel
theorem dX7_stamp_100 : decode cX7_stamp 100 = .ok (.isub, 1) := by decide +kernel
theorem dX7_stamp_101 : decode cX7_stamp 101 = .ok (.i2l, 1) := by decide +kernel
theorem dX7_stamp_102 : decode cX7_stamp 102 = .ok (.lreturn, 1) := by decide +kernel
theorem dX7_isStamp_0 : decode cX7_isStamp 0 = .ok (.iload_n 1, 1) := by decide +kernel
theorem dX7_isStamp_1 : decode cX7_isStamp 1 = .ok (.i2l, 1) := by decide +kernel
theorem dX7_isStamp_2 : decode cX7_isStamp 2 = .ok (.lconst 0, 1) := by decide +kernel
theorem dX7_isStamp_3 : decode cX7_isStamp 3 = .ok (.aload_n 0, 1) := by decide +kernel
theorem dX7_isStamp_4 : decode cX7_isStamp 4 = .ok (.getfield 238, 3) := by decide +kernel
theorem dX7_isStamp_7 : decode cX7_isStamp 7 = .ok (.i2l, 1) := by decide +kernel
theorem dX7_isStamp_8 : decode cX7_isStamp 8 = .ok (.lconst 1, 1) := by decide +kernel
theorem dX7_isStamp_9 : decode cX7_isStamp 9 = .ok (.lsub, 1) := by decide +kernel
theorem dX7_isStamp_10 : decode cX7_isStamp 10 = .ok (.invokestatic 143, 3) := by decide +kernel
theorem dX7_isStamp_13 : decode cX7_isStamp 13 = .ok (.ireturn, 1) := by decide +kernel
theorem dX7_given_0 : decode cX7_given 0 = .ok (.aload_n 0, 1) := by decide +kernel
theorem dX7_given_1 : decode cX7_given 1 = .ok (.iload_n 1, 1) := by decide +kernel
theorem dX7_given_2 : decode cX7_given 2 = .ok (.invokevirtual 241, 3) := by decide +kernel
theorem dX7_given_5 : decode cX7_given 5 = .ok (.ifCond .ne 7, 3) := by decide +kernel
theorem dX7_given_8 : decode cX7_given 8 = .ok (.ldc2_w 155, 3) := by decide +kernel
theorem dX7_given_11 : decode cX7_given 11 = .ok (.lreturn, 1) := by decide +kernel
theorem dX7_given_12 : decode cX7_given 12 = .ok (.iload_n 2, 1) := by decide +kernel
theorem dX7_given_13 : decode cX7_given 13 = .ok (.tableswitch 68 0 3 #[31, 38, 45, 53], 31) := by decide +kernel
theorem dX7_given_44 : decode cX7_given 44 = .ok (.aload_n 0, 1) := by decide +kernel
theorem dX7_given_45 : decode cX7_given 45 = .ok (.getfield 93, 3) := by decide +kernel
theorem dX7_given_48 : decode cX7_given 48 = .ok (.iload_n 1, 1) := by decide +kernel
theorem dX7_given_49 : decode cX7_given 49 = .ok (.laload, 1) := by decide +kernel
theorem dX7_given_50 : decode cX7_given 50 = .ok (.lreturn, 1) := by decide +kernel
theorem dX7_given_51 : decode cX7_given 51 = .ok (.aload_n 0, 1) := by decide +kernel
theorem dX7_given_52 : decode cX7_given 52 = .ok (.getfield 96, 3) := by decide +kernel
theorem dX7_given_55 : decode cX7_given 55 = .ok (.iload_n 1, 1) := by decide +kernel
theorem dX7_given_56 : decode cX7_given 56 = .ok (.laload, 1) := by decide +kernel
theorem dX7_given_57 : decode cX7_given 57 = .ok (.lreturn, 1) := by decide +kernel
theorem dX7_given_58 : decode cX7_given 58 = .ok (.aload_n 0, 1) := by decide +kernel
theorem dX7_given_59 : decode cX7_given 59 = .ok (.getfield 99, 3) := by decide +kernel
theorem dX7_given_62 : decode cX7_given 62 = .ok (.iload_n 1, 1) := by decide +kernel
theorem dX7_given_63 : decode cX7_given 63 = .ok (.iaload, 1) := by decide +kernel
theorem dX7_given_64 : decode cX7_given 64 = .ok (.i2l, 1) := by decide +kernel
theorem dX7_given_65 : decode cX7_given 65 = .ok (.lreturn, 1) := by decide +kernel
theorem dX7_given_66 : decode cX7_given 66 = .ok (.aload_n 0, 1) := by decide +kernel
theorem dX7_given_67 : decode cX7_given 67 = .ok (.getfield 102, 3) := by decide +kernel
theorem dX7_given_70 : decode cX7_given 70 = .ok (.iload_n 1, 1) := by decide +kernel
theorem dX7_given_71 : decode cX7_given 71 = .ok (.baload, 1) := by decide +kernel
theorem dX7_given_72 : decode cX7_given 72 = .ok (.ifCond .eq 7, 3) := by decide +kernel
theorem dX7_given_75 : decode cX7_given 75 = .ok (.lconst 1, 1) := by decide +kernel
theorem dX7_given_76 : decode cX7_given 76 = .ok (.goto 4, 3) := by decide +kernel
theorem dX7_given_79 : decode cX7_given 79 = .ok (.lconst 0, 1) := by decide +kernel
theorem dX7_given_80 : decode cX7_given 80 = .ok (.lreturn, 1) := by decide +kernel
theorem dX7_given_81 : decode cX7_given 81 = .ok (.ldc2_w 155, 3) := by decide +kernel
theorem dX7_given_84 : decode cX7_given 84 = .ok (.lreturn, 1) := by decide +kernel
theorem dX7_ahead_0 : decode cX7_ahead 0 = .ok (.aload_n 0, 1) := by decide +kernel
theorem dX7_ahead_1 : decode cX7_ahead 1 = .ok (.iload_n 1, 1) := by decide +kernel
theorem dX7_ahead_2 : decode cX7_ahead 2 = .ok (.invokevirtual 241, 3) := by decide +kernel
theorem dX7_ahead_5 : decode cX7_ahead 5 = .ok (.ifCond .eq 11, 3) := by decide +kernel
theorem dX7_ahead_8 : decode cX7_ahead 8 = .ok (.aload_n 0, 1) := by decide +kernel
theorem dX7_ahead_9 : decode cX7_ahead 9 = .ok (.iload_n 2, 1) := by decide +kernel
theorem dX7_ahead_10 : decode cX7_ahead 10 = .ok (.invokevirtual 241, 3) := by decide +kernel
theorem dX7_ahead_13 : decode cX7_ahead 13 = .ok (.ifCond .ne 7, 3) := by decide +kernel
theorem dX7_ahead_16 : decode cX7_ahead 16 = .ok (.ldc2_w 155, 3) := by decide +kernel
theorem dX7_ahead_19 : decode cX7_ahead 19 = .ok (.lreturn, 1) := by decide +kernel
theorem dX7_ahead_20 : decode cX7_ahead 20 = .ok (.aload_n 0, 1) := by decide +kernel
theorem dX7_ahead_21 : decode cX7_ahead 21 = .ok (.getfield 96, 3) := by decide +kernel
theorem dX7_ahead_24 : decode cX7_ahead 24 = .ok (.iload_n 1, 1) := by decide +kernel
theorem dX7_ahead_25 : decode cX7_ahead 25 = .ok (.laload, 1) := by decide +kernel
theorem dX7_ahead_26 : decode cX7_ahead 26 = .ok (.aload_n 0, 1) := by decide +kernel
theorem dX7_ahead_27 : decode cX7_ahead 27 = .ok (.getfield 93, 3) := by decide +kernel
theorem dX7_ahead_30 : decode cX7_ahead 30 = .ok (.iload_n 2, 1) := by decide +kernel
theorem dX7_ahead_31 : decode cX7_ahead 31 = .ok (.laload, 1) := by decide +kernel
theorem dX7_ahead_32 : decode cX7_ahead 32 = .ok (.lcmp, 1) := by decide +kernel
theorem dX7_ahead_33 : decode cX7_ahead 33 = .ok (.ifCond .ge 7, 3) := by decide +kernel
theorem dX7_ahead_36 : decode cX7_ahead 36 = .ok (.lconst 1, 1) := by decide +kernel
theorem dX7_ahead_37 : decode cX7_ahead 37 = .ok (.goto 26, 3) := by decide +kernel
theorem dX7_ahead_40 : decode cX7_ahead 40 = .ok (.aload_n 0, 1) := by decide +kernel
theorem dX7_ahead_41 : decode cX7_ahead 41 = .ok (.getfield 96, 3) := by decide +kernel
theorem dX7_ahead_44 : decode cX7_ahead 44 = .ok (.iload_n 2, 1) := by decide +kernel
theorem dX7_ahead_45 : decode cX7_ahead 45 = .ok (.laload, 1) := by decide +kernel
theorem dX7_ahead_46 : decode cX7_ahead 46 = .ok (.aload_n 0, 1) := by decide +kernel
theorem dX7_ahead_47 : decode cX7_ahead 47 = .ok (.getfield 93, 3) := by decide +kernel
theorem dX7_ahead_50 : decode cX7_ahead 50 = .ok (.iload_n 1, 1) := by decide +kernel
theorem dX7_ahead_51 : decode cX7_ahead 51 = .ok (.laload, 1) := by decide +kernel
theorem dX7_ahead_52 : decode cX7_ahead 52 = .ok (.lcmp, 1) := by decide +kernel
theorem dX7_ahead_53 : decode cX7_ahead 53 = .ok (.ifCond .ge 9, 3) := by decide +kernel
theorem dX7_ahead_56 : decode cX7_ahead 56 = .ok (.ldc2_w 244, 3) := by decide +kernel
theorem dX7_ahead_59 : decode cX7_ahead 59 = .ok (.goto 4, 3) := by decide +kernel
theorem dX7_ahead_62 : decode cX7_ahead 62 = .ok (.lconst 0, 1) := by decide +kernel
theorem dX7_ahead_63 : decode cX7_ahead 63 = .ok (.lreturn, 1) := by decide +kernel
theorem dX7_wait_0 : decode cX7_wait 0 = .ok (.aload_n 0, 1) := by decide +kernel
theorem dX7_wait_1 : decode cX7_wait 1 = .ok (.iload_n 1, 1) := by decide +kernel
theorem dX7_wait_2 : decode cX7_wait 2 = .ok (.invokevirtual 163, 3) := by decide +kernel
theorem dX7_wait_5 : decode cX7_wait 5 = .ok (.ifCond .eq 13, 3) := by decide +kernel
theorem dX7_wait_8 : decode cX7_wait 8 = .ok (.aload_n 0, 1) := by decide +kernel
theorem dX7_wait_9 : decode cX7_wait 9 = .ok (.getfield 7, 3) := by decide +kernel
theorem dX7_wait_12 : decode cX7_wait 12 = .ok (.iload_n 1, 1) := by decide +kernel
theorem dX7_wait_13 : decode cX7_wait 13 = .ok (.iaload, 1) := by decide +kernel
theorem dX7_wait_14 : decode cX7_wait 14 = .ok (.iconst 3, 1) := by decide +kernel
theorem dX7_wait_15 : decode cX7_wait 15 = .ok (.if_icmp .ne 7, 3) := by decide +kernel
theorem dX7_wait_18 : decode cX7_wait 18 = .ok (.ldc2_w 155, 3) := by decide +kernel
theorem dX7_wait_21 : decode cX7_wait 21 = .ok (.lreturn, 1) := by decide +kernel
theorem dX7_wait_22 : decode cX7_wait 22 = .ok (.aload_n 0, 1) := by decide +kernel
theorem dX7_wait_23 : decode cX7_wait 23 = .ok (.getfield 238, 3) := by decide +kernel
theorem dX7_wait_26 : decode cX7_wait 26 = .ok (.ifCond .ne 5, 3) := by decide +kernel
theorem dX7_wait_29 : decode cX7_wait 29 = .ok (.lconst 0, 1) := by decide +kernel
theorem dX7_wait_30 : decode cX7_wait 30 = .ok (.lreturn, 1) := by decide +kernel
theorem dX7_wait_31 : decode cX7_wait 31 = .ok (.aload_n 0, 1) := by decide +kernel
theorem dX7_wait_32 : decode cX7_wait 32 = .ok (.getfield 96, 3) := by decide +kernel
theorem dX7_wait_35 : decode cX7_wait 35 = .ok (.iconst 0, 1) := by decide +kernel
theorem dX7_wait_36 : decode cX7_wait 36 = .ok (.laload, 1) := by decide +kernel
theorem dX7_wait_37 : decode cX7_wait 37 = .ok (.lstore_n 2, 1) := by decide +kernel
theorem dX7_wait_38 : decode cX7_wait 38 = .ok (.iconst 1, 1) := by decide +kernel
theorem dX7_wait_39 : decode cX7_wait 39 = .ok (.istore 4, 2) := by decide +kernel
theorem dX7_wait_41 : decode cX7_wait 41 = .ok (.iload 4, 2) := by decide +kernel
theorem dX7_wait_43 : decode cX7_wait 43 = .ok (.aload_n 0, 1) := by decide +kernel
theorem dX7_wait_44 : decode cX7_wait 44 = .ok (.getfield 238, 3) := by decide +kernel
theorem dX7_wait_47 : decode cX7_wait 47 = .ok (.if_icmp .ge 33, 3) := by decide +kernel
theorem dX7_wait_50 : decode cX7_wait 50 = .ok (.aload_n 0, 1) := by decide +kernel
theorem dX7_wait_51 : decode cX7_wait 51 = .ok (.getfield 96, 3) := by decide +kernel
theorem dX7_wait_54 : decode cX7_wait 54 = .ok (.iload 4, 2) := by decide +kernel
theorem dX7_wait_56 : decode cX7_wait 56 = .ok (.laload, 1) := by decide +kernel
theorem dX7_wait_57 : decode cX7_wait 57 = .ok (.lload_n 2, 1) := by decide +kernel
theorem dX7_wait_58 : decode cX7_wait 58 = .ok (.lcmp, 1) := by decide +kernel
theorem dX7_wait_59 : decode cX7_wait 59 = .ok (.ifCond .le 13, 3) := by decide +kernel
theorem dX7_wait_62 : decode cX7_wait 62 = .ok (.aload_n 0, 1) := by decide +kernel
theorem dX7_wait_63 : decode cX7_wait 63 = .ok (.getfield 96, 3) := by decide +kernel
theorem dX7_wait_66 : decode cX7_wait 66 = .ok (.iload 4, 2) := by decide +kernel
theorem dX7_wait_68 : decode cX7_wait 68 = .ok (.laload, 1) := by decide +kernel
theorem dX7_wait_69 : decode cX7_wait 69 = .ok (.goto 4, 3) := by decide +kernel
theorem dX7_wait_72 : decode cX7_wait 72 = .ok (.lload_n 2, 1) := by decide +kernel
theorem dX7_wait_73 : decode cX7_wait 73 = .ok (.lstore_n 2, 1) := by decide +kernel
theorem dX7_wait_74 : decode cX7_wait 74 = .ok (.iinc 4 1, 3) := by decide +kernel
theorem dX7_wait_77 : decode cX7_wait 77 = .ok (.goto (-36), 3) := by decide +kernel
theorem dX7_wait_80 : decode cX7_wait 80 = .ok (.lload_n 2, 1) := by decide +kernel
theorem dX7_wait_81 : decode cX7_wait 81 = .ok (.lconst 1, 1) := by decide +kernel
theorem dX7_wait_82 : decode cX7_wait 82 = .ok (.ladd, 1) := by decide +kernel
theorem dX7_wait_83 : decode cX7_wait 83 = .ok (.aload_n 0, 1) := by decide +kernel
theorem dX7_wait_84 : decode cX7_wait 84 = .ok (.getfield 29, 3) := by decide +kernel
theorem dX7_wait_87 : decode cX7_wait 87 = .ok (.iload_n 1, 1) := by decide +kernel
theorem dX7_wait_88 : decode cX7_wait 88 = .ok (.laload, 1) := by decide +kernel
theorem dX7_wait_89 : decode cX7_wait 89 = .ok (.lsub, 1) := by decide +kernel
theorem dX7_wait_90 : decode cX7_wait 90 = .ok (.lstore 4, 2) := by decide +kernel
theorem dX7_wait_92 : decode cX7_wait 92 = .ok (.lconst 1, 1) := by decide +kernel
theorem dX7_wait_93 : decode cX7_wait 93 = .ok (.lload 4, 2) := by decide +kernel
theorem dX7_wait_95 : decode cX7_wait 95 = .ok (.lconst 1, 1) := by decide +kernel
theorem dX7_wait_96 : decode cX7_wait 96 = .ok (.lsub, 1) := by decide +kernel
theorem dX7_wait_97 : decode cX7_wait 97 = .ok (.ldc2_w 167, 3) := by decide +kernel
theorem dX7_wait_100 : decode cX7_wait 100 = .ok (.aload_n 0, 1) := by decide +kernel
theorem dX7_wait_101 : decode cX7_wait 101 = .ok (.getfield 13, 3) := by decide +kernel
theorem dX7_wait_104 : decode cX7_wait 104 = .ok (.iload_n 1, 1) := by decide +kernel
theorem dX7_wait_105 : decode cX7_wait 105 = .ok (.laload, 1) := by decide +kernel
theorem dX7_wait_106 : decode cX7_wait 106 = .ok (.ladd, 1) := by decide +kernel
theorem dX7_wait_107 : decode cX7_wait 107 = .ok (.lmul, 1) := by decide +kernel
theorem dX7_wait_108 : decode cX7_wait 108 = .ok (.ldc2_w 167, 3) := by decide +kernel
theorem dX7_wait_111 : decode cX7_wait 111 = .ok (.invokestatic 177, 3) := by decide +kernel
theorem dX7_wait_114 : decode cX7_wait 114 = .ok (.ladd, 1) := by decide +kernel
theorem dX7_wait_115 : decode cX7_wait 115 = .ok (.lstore 6, 2) := by decide +kernel
theorem dX7_wait_117 : decode cX7_wait 117 = .ok (.aload_n 0, 1) := by decide +kernel
theorem dX7_wait_118 : decode cX7_wait 118 = .ok (.iload_n 1, 1) := by decide +kernel
theorem dX7_wait_119 : decode cX7_wait 119 = .ok (.invokevirtual 173, 3) := by decide +kernel
theorem dX7_wait_122 : decode cX7_wait 122 = .ok (.aload_n 0, 1) := by decide +kernel
theorem dX7_wait_123 : decode cX7_wait 123 = .ok (.getfield 35, 3) := by decide +kernel
theorem dX7_wait_126 : decode cX7_wait 126 = .ok (.iload_n 1, 1) := by decide +kernel
theorem dX7_wait_127 : decode cX7_wait 127 = .ok (.laload, 1) := by decide +kernel
theorem dX7_wait_128 : decode cX7_wait 128 = .ok (.lsub, 1) := by decide +kernel
theorem dX7_wait_129 : decode cX7_wait 129 = .ok (.lstore 8, 2) := by decide +kernel
theorem dX7_wait_131 : decode cX7_wait 131 = .ok (.lload 6, 2) := by decide +kernel
theorem dX7_wait_133 : decode cX7_wait 133 = .ok (.lload 8, 2) := by decide +kernel
theorem dX7_wait_135 : decode cX7_wait 135 = .ok (.lcmp, 1) := by decide +kernel
theorem dX7_wait_136 : decode cX7_wait 136 = .ok (.ifCond .le 11, 3) := by decide +kernel
theorem dX7_wait_139 : decode cX7_wait 139 = .ok (.lload 6, 2) := by decide +kernel
theorem dX7_wait_141 : decode cX7_wait 141 = .ok (.lload 8, 2) := by decide +kernel
theorem dX7_wait_143 : decode cX7_wait 143 = .ok (.lsub, 1) := by decide +kernel
theorem dX7_wait_144 : decode cX7_wait 144 = .ok (.goto 4, 3) := by decide +kernel
theorem dX7_wait_147 : decode cX7_wait 147 = .ok (.lconst 0, 1) := by decide +kernel
theorem dX7_wait_148 : decode cX7_wait 148 = .ok (.lreturn, 1) := by decide +kernel
theorem dX7_event_0 : decode cX7_event 0 = .ok (.aload_n 0, 1) := by decide +kernel
theorem dX7_event_1 : decode cX7_event 1 = .ok (.iload_n 1, 1) := by decide +kernel
theorem dX7_event_2 : decode cX7_event 2 = .ok (.invokevirtual 241, 3) := by decide +kernel
theorem dX7_event_5 : decode cX7_event 5 = .ok (.ifCond .eq 12, 3) := by decide +kernel
theorem dX7_event_8 : decode cX7_event 8 = .ok (.aload_n 0, 1) := by decide +kernel
theorem dX7_event_9 : decode cX7_event 9 = .ok (.getfield 246, 3) := by decide +kernel
theorem dX7_event_12 : decode cX7_event 12 = .ok (.bipush 30, 2) := by decide +kernel
theorem dX7_event_14 : decode cX7_event 14 = .ok (.if_icmp .ne 7, 3) := by decide +kernel
theorem dX7_event_17 : decode cX7_event 17 = .ok (.ldc2_w 155, 3) := by decide +kernel
theorem dX7_event_20 : decode cX7_event 20 = .ok (.lreturn, 1) := by decide +kernel
theorem dX7_event_21 : decode cX7_event 21 = .ok (.aload_n 0, 1) := by decide +kernel
theorem dX7_event_22 : decode cX7_event 22 = .ok (.getfield 105, 3) := by decide +kernel
theorem dX7_event_25 : decode cX7_event 25 = .ok (.aload_n 0, 1) := by decide +kernel
theorem dX7_event_26 : decode cX7_event 26 = .ok (.getfield 246, 3) := by decide +kernel
theorem dX7_event_29 : decode cX7_event 29 = .ok (.aload_n 0, 1) := by decide +kernel
theorem dX7_event_30 : decode cX7_event 30 = .ok (.getfield 93, 3) := by decide +kernel
theorem dX7_event_33 : decode cX7_event 33 = .ok (.iload_n 1, 1) := by decide +kernel
theorem dX7_event_34 : decode cX7_event 34 = .ok (.laload, 1) := by decide +kernel
theorem dX7_event_35 : decode cX7_event 35 = .ok (.lastore, 1) := by decide +kernel
theorem dX7_event_36 : decode cX7_event 36 = .ok (.aload_n 0, 1) := by decide +kernel
theorem dX7_event_37 : decode cX7_event 37 = .ok (.getfield 108, 3) := by decide +kernel
theorem dX7_event_40 : decode cX7_event 40 = .ok (.aload_n 0, 1) := by decide +kernel
theorem dX7_event_41 : decode cX7_event 41 = .ok (.getfield 246, 3) := by decide +kernel
theorem dX7_event_44 : decode cX7_event 44 = .ok (.aload_n 0, 1) := by decide +kernel
theorem dX7_event_45 : decode cX7_event 45 = .ok (.getfield 96, 3) := by decide +kernel
theorem dX7_event_48 : decode cX7_event 48 = .ok (.iload_n 1, 1) := by decide +kernel
theorem dX7_event_49 : decode cX7_event 49 = .ok (.laload, 1) := by decide +kernel
theorem dX7_event_50 : decode cX7_event 50 = .ok (.lastore, 1) := by decide +kernel
theorem dX7_event_51 : decode cX7_event 51 = .ok (.aload_n 0, 1) := by decide +kernel
theorem dX7_event_52 : decode cX7_event 52 = .ok (.dup, 1) := by decide +kernel
theorem dX7_event_53 : decode cX7_event 53 = .ok (.getfield 246, 3) := by decide +kernel
theorem dX7_event_56 : decode cX7_event 56 = .ok (.iconst 1, 1) := by decide +kernel
theorem dX7_event_57 : decode cX7_event 57 = .ok (.iadd, 1) := by decide +kernel
theorem dX7_event_58 : decode cX7_event 58 = .ok (.putfield 246, 3) := by decide +kernel
theorem dX7_event_61 : decode cX7_event 61 = .ok (.aload_n 0, 1) := by decide +kernel
theorem dX7_event_62 : decode cX7_event 62 = .ok (.getfield 246, 3) := by decide +kernel
theorem dX7_event_65 : decode cX7_event 65 = .ok (.iconst 1, 1) := by decide +kernel
theorem dX7_event_66 : decode cX7_event 66 = .ok (.isub, 1) := by decide +kernel
theorem dX7_event_67 : decode cX7_event 67 = .ok (.i2l, 1) := by decide +kernel
theorem dX7_event_68 : decode cX7_event 68 = .ok (.lreturn, 1) := by decide +kernel
theorem dX7_isEvent_0 : decode cX7_isEvent 0 = .ok (.iload_n 1, 1) := by decide +kernel
theorem dX7_isEvent_1 : decode cX7_isEvent 1 = .ok (.i2l, 1) := by decide +kernel
theorem dX7_isEvent_2 : decode cX7_isEvent 2 = .ok (.lconst 0, 1) := by decide +kernel
theorem dX7_isEvent_3 : decode cX7_isEvent 3 = .ok (.aload_n 0, 1) := by decide +kernel
theorem dX7_isEvent_4 : decode cX7_isEvent 4 = .ok (.getfield 246, 3) := by decide +kernel
theorem dX7_isEvent_7 : decode cX7_isEvent 7 = .ok (.i2l, 1) := by decide +kernel
theorem dX7_isEvent_8 : decode cX7_isEvent 8 = .ok (.lconst 1, 1) := by decide +kernel
theorem dX7_isEvent_9 : decode cX7_isEvent 9 = .ok (.lsub, 1) := by decide +kernel
theorem dX7_isEvent_10 : decode cX7_isEvent 10 = .ok (.invokestatic 143, 3) := by decide +kernel
theorem dX7_isEvent_13 : decode cX7_isEvent 13 = .ok (.ireturn, 1) := by decide +kernel
theorem dX7_link_0 : decode cX7_link 0 = .ok (.aload_n 0, 1) := by decide +kernel
theorem dX7_link_1 : decode cX7_link 1 = .ok (.iload_n 1, 1) := by decide +kernel
theorem dX7_link_2 : decode cX7_link 2 = .ok (.invokevirtual 249, 3) := by decide +kernel
theorem dX7_link_5 : decode cX7_link 5 = .ok (.ifCond .eq 25, 3) := by decide +kernel
theorem dX7_link_8 : decode cX7_link 8 = .ok (.aload_n 0, 1) := by decide +kernel
theorem dX7_link_9 : decode cX7_link 9 = .ok (.iload_n 2, 1) := by decide +kernel
theorem dX7_link_10 : decode cX7_link 10 = .ok (.invokevirtual 249, 3) := by decide +kernel
theorem dX7_link_13 : decode cX7_link 13 = .ok (.ifCond .eq 17, 3) := by decide +kernel
theorem dX7_link_16 : decode cX7_link 16 = .ok (.iload_n 1, 1) := by decide +kernel
theorem dX7_link_17 : decode cX7_link 17 = .ok (.iload_n 2, 1) := by decide +kernel
theorem dX7_link_18 : decode cX7_link 18 = .ok (.if_icmp .eq 12, 3) := by decide +kernel
theorem dX7_link_21 : decode cX7_link 21 = .ok (.aload_n 0, 1) := by decide +kernel
theorem dX7_link_22 : decode cX7_link 22 = .ok (.getfield 252, 3) := by decide +kernel
theorem dX7_link_25 : decode cX7_link 25 = .ok (.bipush 60, 2) := by decide +kernel
theorem dX7_link_27 : decode cX7_link 27 = .ok (.if_icmp .ne 7, 3) := by decide +kernel
theorem dX7_link_30 : decode cX7_link 30 = .ok (.ldc2_w 155, 3) := by decide +kernel
theorem dX7_link_33 : decode cX7_link 33 = .ok (.lreturn, 1) := by decide +kernel
theorem dX7_link_34 : decode cX7_link 34 = .ok (.aload_n 0, 1) := by decide +kernel
theorem dX7_link_35 : decode cX7_link 35 = .ok (.getfield 111, 3) := by decide +kernel
theorem dX7_link_38 : decode cX7_link 38 = .ok (.bipush 30, 2) := by decide +kernel
theorem dX7_link_40 : decode cX7_link 40 = .ok (.iload_n 1, 1) := by decide +kernel
theorem dX7_link_41 : decode cX7_link 41 = .ok (.imul, 1) := by decide +kernel
theorem dX7_link_42 : decode cX7_link 42 = .ok (.iload_n 2, 1) := by decide +kernel
theorem dX7_link_43 : decode cX7_link 43 = .ok (.iadd, 1) := by decide +kernel
theorem dX7_link_44 : decode cX7_link 44 = .ok (.iconst 1, 1) := by decide +kernel
theorem dX7_link_45 : decode cX7_link 45 = .ok (.bastore, 1) := by decide +kernel
theorem dX7_link_46 : decode cX7_link 46 = .ok (.aload_n 0, 1) := by decide +kernel
theorem dX7_link_47 : decode cX7_link 47 = .ok (.dup, 1) := by decide +kernel
theorem dX7_link_48 : decode cX7_link 48 = .ok (.getfield 252, 3) := by decide +kernel
theorem dX7_link_51 : decode cX7_link 51 = .ok (.iconst 1, 1) := by decide +kernel
theorem dX7_link_52 : decode cX7_link 52 = .ok (.iadd, 1) := by decide +kernel
theorem dX7_link_53 : decode cX7_link 53 = .ok (.putfield 252, 3) := by decide +kernel
theorem dX7_link_56 : decode cX7_link 56 = .ok (.aload_n 0, 1) := by decide +kernel
theorem dX7_link_57 : decode cX7_link 57 = .ok (.getfield 252, 3) := by decide +kernel
theorem dX7_link_60 : decode cX7_link 60 = .ok (.i2l, 1) := by decide +kernel
theorem dX7_link_61 : decode cX7_link 61 = .ok (.lreturn, 1) := by decide +kernel
theorem dX7_findLongest_0 : decode cX7_findLongest 0 = .ok (.iconst 0, 1) := by decide +kernel
theorem dX7_findLongest_1 : decode cX7_findLongest 1 = .ok (.istore_n 1, 1) := by decide +kernel
theorem dX7_findLongest_2 : decode cX7_findLongest 2 = .ok (.iload_n 1, 1) := by decide +kernel
theorem dX7_findLongest_3 : decode cX7_findLongest 3 = .ok (.aload_n 0, 1) := by decide +kernel
theorem dX7_findLongest_4 : decode cX7_findLongest 4 = .ok (.getfield 246, 3) := by decide +kernel
theorem dX7_findLongest_7 : decode cX7_findLongest 7 = .ok (.if_icmp .ge 180, 3) := by decide +kernel
theorem dX7_findLongest_10 : decode cX7_findLongest 10 = .ok (.iconst 0, 1) := by decide +kernel
theorem dX7_findLongest_11 : decode cX7_findLongest 11 = .ok (.istore_n 2, 1) := by decide +kernel
theorem dX7_findLongest_12 : decode cX7_findLongest 12 = .ok (.iload_n 2, 1) := by decide +kernel
theorem dX7_findLongest_13 : decode cX7_findLongest 13 = .ok (.aload_n 0, 1) := by decide +kernel
theorem dX7_findLongest_14 : decode cX7_findLongest 14 = .ok (.getfield 246, 3) := by decide +kernel
theorem dX7_findLongest_17 : decode cX7_findLongest 17 = .ok (.if_icmp .ge 30, 3) := by decide +kernel
theorem dX7_findLongest_20 : decode cX7_findLongest 20 = .ok (.aload_n 0, 1) := by decide +kernel
theorem dX7_findLongest_21 : decode cX7_findLongest 21 = .ok (.getfield 126, 3) := by decide +kernel
theorem dX7_findLongest_24 : decode cX7_findLongest 24 = .ok (.bipush 30, 2) := by decide +kernel
theorem dX7_findLongest_26 : decode cX7_findLongest 26 = .ok (.iload_n 1, 1) := by decide +kernel
theorem dX7_findLongest_27 : decode cX7_findLongest 27 = .ok (.imul, 1) := by decide +kernel
theorem dX7_findLongest_28 : decode cX7_findLongest 28 = .ok (.iload_n 2, 1) := by decide +kernel
theorem dX7_findLongest_29 : decode cX7_findLongest 29 = .ok (.iadd, 1) := by decide +kernel
theorem dX7_findLongest_30 : decode cX7_findLongest 30 = .ok (.iload_n 1, 1) := by decide +kernel
theorem dX7_findLongest_31 : decode cX7_findLongest 31 = .ok (.iload_n 2, 1) := by decide +kernel
theorem dX7_findLongest_32 : decode cX7_findLongest 32 = .ok (.if_icmp .ne 7, 3) := by decide +kernel
theorem dX7_findLongest_35 : decode cX7_findLongest 35 = .ok (.iconst 0, 1) := by decide +kernel
theorem dX7_findLongest_36 : decode cX7_findLongest 36 = .ok (.goto 4, 3) := by decide +kernel
theorem dX7_findLongest_39 : decode cX7_findLongest 39 = .ok (.iconst (-1), 1) := by decide +kernel
theorem dX7_findLongest_40 : decode cX7_findLongest 40 = .ok (.iastore, 1) := by decide +kernel
theorem dX7_findLongest_41 : decode cX7_findLongest 41 = .ok (.iinc 2 1, 3) := by decide +kernel
theorem dX7_findLongest_44 : decode cX7_findLongest 44 = .ok (.goto (-32), 3) := by decide +kernel
theorem dX7_findLongest_47 : decode cX7_findLongest 47 = .ok (.iconst 1, 1) := by decide +kernel
theorem dX7_findLongest_48 : decode cX7_findLongest 48 = .ok (.istore_n 2, 1) := by decide +kernel
theorem dX7_findLongest_49 : decode cX7_findLongest 49 = .ok (.iconst 0, 1) := by decide +kernel
theorem dX7_findLongest_50 : decode cX7_findLongest 50 = .ok (.istore_n 3, 1) := by decide +kernel
theorem dX7_findLongest_51 : decode cX7_findLongest 51 = .ok (.iload_n 2, 1) := by decide +kernel
theorem dX7_findLongest_52 : decode cX7_findLongest 52 = .ok (.ifCond .eq 129, 3) := by decide +kernel
theorem dX7_findLongest_55 : decode cX7_findLongest 55 = .ok (.iload_n 3, 1) := by decide +kernel
theorem dX7_findLongest_56 : decode cX7_findLongest 56 = .ok (.aload_n 0, 1) := by decide +kernel
theorem dX7_findLongest_57 : decode cX7_findLongest 57 = .ok (.getfield 246, 3) := by decide +kernel
theorem dX7_findLongest_60 : decode cX7_findLongest 60 = .ok (.if_icmp .le 5, 3) := by decide +kernel
theorem dX7_findLongest_63 : decode cX7_findLongest 63 = .ok (.iconst 0, 1) := by decide +kernel
theorem dX7_findLongest_64 : decode cX7_findLongest 64 = .ok (.ireturn, 1) := by decide +kernel
theorem dX7_findLongest_65 : decode cX7_findLongest 65 = .ok (.iconst 0, 1) := by decide +kernel
theorem dX7_findLongest_66 : decode cX7_findLongest 66 = .ok (.istore_n 2, 1) := by decide +kernel
theorem dX7_findLongest_67 : decode cX7_findLongest 67 = .ok (.iconst 0, 1) := by decide +kernel
theorem dX7_findLongest_68 : decode cX7_findLongest 68 = .ok (.istore 4, 2) := by decide +kernel
theorem dX7_findLongest_70 : decode cX7_findLongest 70 = .ok (.iload 4, 2) := by decide +kernel
theorem dX7_findLongest_72 : decode cX7_findLongest 72 = .ok (.aload_n 0, 1) := by decide +kernel
theorem dX7_findLongest_73 : decode cX7_findLongest 73 = .ok (.getfield 246, 3) := by decide +kernel
theorem dX7_findLongest_76 : decode cX7_findLongest 76 = .ok (.if_icmp .ge 99, 3) := by decide +kernel
theorem dX7_findLongest_79 : decode cX7_findLongest 79 = .ok (.iconst 0, 1) := by decide +kernel
theorem dX7_findLongest_80 : decode cX7_findLongest 80 = .ok (.istore 5, 2) := by decide +kernel
theorem dX7_findLongest_82 : decode cX7_findLongest 82 = .ok (.iload 5, 2) := by decide +kernel
theorem dX7_findLongest_84 : decode cX7_findLongest 84 = .ok (.aload_n 0, 1) := by decide +kernel
theorem dX7_findLongest_85 : decode cX7_findLongest 85 = .ok (.getfield 246, 3) := by decide +kernel
theorem dX7_findLongest_88 : decode cX7_findLongest 88 = .ok (.if_icmp .ge 81, 3) := by decide +kernel
theorem dX7_findLongest_91 : decode cX7_findLongest 91 = .ok (.aload_n 0, 1) := by decide +kernel
theorem dX7_findLongest_92 : decode cX7_findLongest 92 = .ok (.getfield 126, 3) := by decide +kernel
theorem dX7_findLongest_95 : decode cX7_findLongest 95 = .ok (.bipush 30, 2) := by decide +kernel
theorem dX7_findLongest_97 : decode cX7_findLongest 97 = .ok (.iload_n 1, 1) := by decide +kernel
theorem dX7_findLongest_98 : decode cX7_findLongest 98 = .ok (.imul, 1) := by decide +kernel
theorem dX7_findLongest_99 : decode cX7_findLongest 99 = .ok (.iload 4, 2) := by decide +kernel
theorem dX7_findLongest_101 : decode cX7_findLongest 101 = .ok (.iadd, 1) := by decide +kernel
theorem dX7_findLongest_102 : decode cX7_findLongest 102 = .ok (.iaload, 1) := by decide +kernel
theorem dX7_findLongest_103 : decode cX7_findLongest 103 = .ok (.istore 6, 2) := by decide +kernel
theorem dX7_findLongest_105 : decode cX7_findLongest 105 = .ok (.iload 6, 2) := by decide +kernel
theorem dX7_findLongest_107 : decode cX7_findLongest 107 = .ok (.ifCond .lt 56, 3) := by decide +kernel
theorem dX7_findLongest_110 : decode cX7_findLongest 110 = .ok (.aload_n 0, 1) := by decide +kernel
theorem dX7_findLongest_111 : decode cX7_findLongest 111 = .ok (.getfield 111, 3) := by decide +kernel
theorem dX7_findLongest_114 : decode cX7_findLongest 114 = .ok (.bipush 30, 2) := by decide +kernel
theorem dX7_findLongest_116 : decode cX7_findLongest 116 = .ok (.iload 4, 2) := by decide +kernel
theorem dX7_findLongest_118 : decode cX7_findLongest 118 = .ok (.imul, 1) := by decide +kernel
theorem dX7_findLongest_119 : decode cX7_findLongest 119 = .ok (.iload 5, 2) := by decide +kernel
theorem dX7_findLongest_121 : decode cX7_findLongest 121 = .ok (.iadd, 1) := by decide +kernel
theorem dX7_findLongest_122 : decode cX7_findLongest 122 = .ok (.baload, 1) := by decide +kernel
theorem dX7_findLongest_123 : decode cX7_findLongest 123 = .ok (.ifCond .eq 40, 3) := by decide +kernel
theorem dX7_findLongest_126 : decode cX7_findLongest 126 = .ok (.iload 6, 2) := by decide +kernel
theorem dX7_findLongest_128 : decode cX7_findLongest 128 = .ok (.iconst 1, 1) := by decide +kernel
theorem dX7_findLongest_129 : decode cX7_findLongest 129 = .ok (.iadd, 1) := by decide +kernel
theorem dX7_findLongest_130 : decode cX7_findLongest 130 = .ok (.aload_n 0, 1) := by decide +kernel
theorem dX7_findLongest_131 : decode cX7_findLongest 131 = .ok (.getfield 126, 3) := by decide +kernel
theorem dX7_findLongest_134 : decode cX7_findLongest 134 = .ok (.bipush 30, 2) := by decide +kernel
theorem dX7_findLongest_136 : decode cX7_findLongest 136 = .ok (.iload_n 1, 1) := by decide +kernel
theorem dX7_findLongest_137 : decode cX7_findLongest 137 = .ok (.imul, 1) := by decide +kernel
theorem dX7_findLongest_138 : decode cX7_findLongest 138 = .ok (.iload 5, 2) := by decide +kernel
theorem dX7_findLongest_140 : decode cX7_findLongest 140 = .ok (.iadd, 1) := by decide +kernel
theorem dX7_findLongest_141 : decode cX7_findLongest 141 = .ok (.iaload, 1) := by decide +kernel
theorem dX7_findLongest_142 : decode cX7_findLongest 142 = .ok (.if_icmp .le 21, 3) := by decide +kernel
theorem dX7_findLongest_145 : decode cX7_findLongest 145 = .ok (.aload_n 0, 1) := by decide +kernel
theorem dX7_findLongest_146 : decode cX7_findLongest 146 = .ok (.getfield 126, 3) := by decide +kernel
theorem dX7_findLongest_149 : decode cX7_findLongest 149 = .ok (.bipush 30, 2) := by decide +kernel
theorem dX7_findLongest_151 : decode cX7_findLongest 151 = .ok (.iload_n 1, 1) := by decide +kernel
theorem dX7_findLongest_152 : decode cX7_findLongest 152 = .ok (.imul, 1) := by decide +kernel
theorem dX7_findLongest_153 : decode cX7_findLongest 153 = .ok (.iload 5, 2) := by decide +kernel
theorem dX7_findLongest_155 : decode cX7_findLongest 155 = .ok (.iadd, 1) := by decide +kernel
theorem dX7_findLongest_156 : decode cX7_findLongest 156 = .ok (.iload 6, 2) := by decide +kernel
theorem dX7_findLongest_158 : decode cX7_findLongest 158 = .ok (.iconst 1, 1) := by decide +kernel
theorem dX7_findLongest_159 : decode cX7_findLongest 159 = .ok (.iadd, 1) := by decide +kernel
theorem dX7_findLongest_160 : decode cX7_findLongest 160 = .ok (.iastore, 1) := by decide +kernel
theorem dX7_findLongest_161 : decode cX7_findLongest 161 = .ok (.iconst 1, 1) := by decide +kernel
theorem dX7_findLongest_162 : decode cX7_findLongest 162 = .ok (.istore_n 2, 1) := by decide +kernel
theorem dX7_findLongest_163 : decode cX7_findLongest 163 = .ok (.iinc 5 1, 3) := by decide +kernel
theorem dX7_findLongest_166 : decode cX7_findLongest 166 = .ok (.goto (-84), 3) := by decide +kernel
theorem dX7_findLongest_169 : decode cX7_findLongest 169 = .ok (.iinc 4 1, 3) := by decide +kernel
theorem dX7_findLongest_172 : decode cX7_findLongest 172 = .ok (.goto (-102), 3) := by decide +kernel
theorem dX7_findLongest_175 : decode cX7_findLongest 175 = .ok (.iinc 3 1, 3) := by decide +kernel
theorem dX7_findLongest_178 : decode cX7_findLongest 178 = .ok (.goto (-127), 3) := by decide +kernel
theorem dX7_findLongest_181 : decode cX7_findLongest 181 = .ok (.iinc 1 1, 3) := by decide +kernel
theorem dX7_findLongest_184 : decode cX7_findLongest 184 = .ok (.goto (-182), 3) := by decide +kernel
theorem dX7_findLongest_187 : decode cX7_findLongest 187 = .ok (.iconst 1, 1) := by decide +kernel
theorem dX7_findLongest_188 : decode cX7_findLongest 188 = .ok (.ireturn, 1) := by decide +kernel
theorem dX7_mend_0 : decode cX7_mend 0 = .ok (.aload_n 0, 1) := by decide +kernel
theorem dX7_mend_1 : decode cX7_mend 1 = .ok (.invokevirtual 255, 3) := by decide +kernel
theorem dX7_mend_4 : decode cX7_mend 4 = .ok (.ifCond .ne 7, 3) := by decide +kernel
theorem dX7_mend_7 : decode cX7_mend 7 = .ok (.ldc2_w 244, 3) := by decide +kernel
theorem dX7_mend_10 : decode cX7_mend 10 = .ok (.lreturn, 1) := by decide +kernel
theorem dX7_mend_11 : decode cX7_mend 11 = .ok (.lconst 0, 1) := by decide +kernel
theorem dX7_mend_12 : decode cX7_mend 12 = .ok (.lstore_n 1, 1) := by decide +kernel
theorem dX7_mend_13 : decode cX7_mend 13 = .ok (.iconst 0, 1) := by decide +kernel
theorem dX7_mend_14 : decode cX7_mend 14 = .ok (.istore_n 3, 1) := by decide +kernel
theorem dX7_mend_15 : decode cX7_mend 15 = .ok (.iload_n 3, 1) := by decide +kernel
theorem dX7_mend_16 : decode cX7_mend 16 = .ok (.aload_n 0, 1) := by decide +kernel
theorem dX7_mend_17 : decode cX7_mend 17 = .ok (.getfield 246, 3) := by decide +kernel
theorem dX7_mend_20 : decode cX7_mend 20 = .ok (.if_icmp .ge 90, 3) := by decide +kernel
theorem dX7_mend_23 : decode cX7_mend 23 = .ok (.iconst 0, 1) := by decide +kernel
theorem dX7_mend_24 : decode cX7_mend 24 = .ok (.istore 4, 2) := by decide +kernel
theorem dX7_mend_26 : decode cX7_mend 26 = .ok (.iload 4, 2) := by decide +kernel
theorem dX7_mend_28 : decode cX7_mend 28 = .ok (.aload_n 0, 1) := by decide +kernel
theorem dX7_mend_29 : decode cX7_mend 29 = .ok (.getfield 246, 3) := by decide +kernel
theorem dX7_mend_32 : decode cX7_mend 32 = .ok (.if_icmp .ge 72, 3) := by decide +kernel
theorem dX7_mend_35 : decode cX7_mend 35 = .ok (.aload_n 0, 1) := by decide +kernel
theorem dX7_mend_36 : decode cX7_mend 36 = .ok (.getfield 126, 3) := by decide +kernel
theorem dX7_mend_39 : decode cX7_mend 39 = .ok (.bipush 30, 2) := by decide +kernel
theorem dX7_mend_41 : decode cX7_mend 41 = .ok (.iload_n 3, 1) := by decide +kernel
theorem dX7_mend_42 : decode cX7_mend 42 = .ok (.imul, 1) := by decide +kernel
theorem dX7_mend_43 : decode cX7_mend 43 = .ok (.iload 4, 2) := by decide +kernel
theorem dX7_mend_45 : decode cX7_mend 45 = .ok (.iadd, 1) := by decide +kernel
theorem dX7_mend_46 : decode cX7_mend 46 = .ok (.iaload, 1) := by decide +kernel
theorem dX7_mend_47 : decode cX7_mend 47 = .ok (.istore 5, 2) := by decide +kernel
theorem dX7_mend_49 : decode cX7_mend 49 = .ok (.iload 5, 2) := by decide +kernel
theorem dX7_mend_51 : decode cX7_mend 51 = .ok (.ifCond .ge 7, 3) := by decide +kernel
theorem dX7_mend_54 : decode cX7_mend 54 = .ok (.lconst 0, 1) := by decide +kernel
theorem dX7_mend_55 : decode cX7_mend 55 = .ok (.goto 27, 3) := by decide +kernel
theorem dX7_mend_58 : decode cX7_mend 58 = .ok (.aload_n 0, 1) := by decide +kernel
theorem dX7_mend_59 : decode cX7_mend 59 = .ok (.getfield 105, 3) := by decide +kernel
theorem dX7_mend_62 : decode cX7_mend 62 = .ok (.iload_n 3, 1) := by decide +kernel
theorem dX7_mend_63 : decode cX7_mend 63 = .ok (.laload, 1) := by decide +kernel
theorem dX7_mend_64 : decode cX7_mend 64 = .ok (.iload 5, 2) := by decide +kernel
theorem dX7_mend_66 : decode cX7_mend 66 = .ok (.i2l, 1) := by decide +kernel
theorem dX7_mend_67 : decode cX7_mend 67 = .ok (.ladd, 1) := by decide +kernel
theorem dX7_mend_68 : decode cX7_mend 68 = .ok (.aload_n 0, 1) := by decide +kernel
theorem dX7_mend_69 : decode cX7_mend 69 = .ok (.getfield 108, 3) := by decide +kernel
theorem dX7_mend_72 : decode cX7_mend 72 = .ok (.iload 4, 2) := by decide +kernel
theorem dX7_mend_74 : decode cX7_mend 74 = .ok (.laload, 1) := by decide +kernel
theorem dX7_mend_75 : decode cX7_mend 75 = .ok (.lsub, 1) := by decide +kernel
theorem dX7_mend_76 : decode cX7_mend 76 = .ok (.ldc2_w 203, 3) := by decide +kernel
theorem dX7_mend_79 : decode cX7_mend 79 = .ok (.invokestatic 177, 3) := by decide +kernel
theorem dX7_mend_82 : decode cX7_mend 82 = .ok (.lstore 6, 2) := by decide +kernel
theorem dX7_mend_84 : decode cX7_mend 84 = .ok (.lload 6, 2) := by decide +kernel
theorem dX7_mend_86 : decode cX7_mend 86 = .ok (.lload_n 1, 1) := by decide +kernel
theorem dX7_mend_87 : decode cX7_mend 87 = .ok (.lcmp, 1) := by decide +kernel
theorem dX7_mend_88 : decode cX7_mend 88 = .ok (.ifCond .le 8, 3) := by decide +kernel
theorem dX7_mend_91 : decode cX7_mend 91 = .ok (.lload 6, 2) := by decide +kernel
theorem dX7_mend_93 : decode cX7_mend 93 = .ok (.goto 4, 3) := by decide +kernel
theorem dX7_mend_96 : decode cX7_mend 96 = .ok (.lload_n 1, 1) := by decide +kernel
theorem dX7_mend_97 : decode cX7_mend 97 = .ok (.lstore_n 1, 1) := by decide +kernel
theorem dX7_mend_98 : decode cX7_mend 98 = .ok (.iinc 4 1, 3) := by decide +kernel
theorem dX7_mend_101 : decode cX7_mend 101 = .ok (.goto (-75), 3) := by decide +kernel
theorem dX7_mend_104 : decode cX7_mend 104 = .ok (.iinc 3 1, 3) := by decide +kernel
theorem dX7_mend_107 : decode cX7_mend 107 = .ok (.goto (-92), 3) := by decide +kernel
theorem dX7_mend_110 : decode cX7_mend 110 = .ok (.lload_n 1, 1) := by decide +kernel
theorem dX7_mend_111 : decode cX7_mend 111 = .ok (.lreturn, 1) := by decide +kernel
theorem dX7_findTimes_0 : decode cX7_findTimes 0 = .ok (.aload_n 0, 1) := by decide +kernel
theorem dX7_findTimes_1 : decode cX7_findTimes 1 = .ok (.invokevirtual 259, 3) := by decide +kernel
theorem dX7_findTimes_4 : decode cX7_findTimes 4 = .ok (.lstore_n 1, 1) := by decide +kernel
theorem dX7_findTimes_5 : decode cX7_findTimes 5 = .ok (.lload_n 1, 1) := by decide +kernel
theorem dX7_findTimes_6 : decode cX7_findTimes 6 = .ok (.lconst 0, 1) := by decide +kernel
theorem dX7_findTimes_7 : decode cX7_findTimes 7 = .ok (.lcmp, 1) := by decide +kernel
theorem dX7_findTimes_8 : decode cX7_findTimes 8 = .ok (.ifCond .ge 5, 3) := by decide +kernel
theorem dX7_findTimes_11 : decode cX7_findTimes 11 = .ok (.iconst 0, 1) := by decide +kernel
theorem dX7_findTimes_12 : decode cX7_findTimes 12 = .ok (.ireturn, 1) := by decide +kernel
theorem dX7_findTimes_13 : decode cX7_findTimes 13 = .ok (.iconst 0, 1) := by decide +kernel
theorem dX7_findTimes_14 : decode cX7_findTimes 14 = .ok (.istore_n 3, 1) := by decide +kernel
theorem dX7_findTimes_15 : decode cX7_findTimes 15 = .ok (.iload_n 3, 1) := by decide +kernel
theorem dX7_findTimes_16 : decode cX7_findTimes 16 = .ok (.aload_n 0, 1) := by decide +kernel
theorem dX7_findTimes_17 : decode cX7_findTimes 17 = .ok (.getfield 246, 3) := by decide +kernel
theorem dX7_findTimes_20 : decode cX7_findTimes 20 = .ok (.if_icmp .ge 102, 3) := by decide +kernel
theorem dX7_findTimes_23 : decode cX7_findTimes 23 = .ok (.aload_n 0, 1) := by decide +kernel
theorem dX7_findTimes_24 : decode cX7_findTimes 24 = .ok (.getfield 129, 3) := by decide +kernel
theorem dX7_findTimes_27 : decode cX7_findTimes 27 = .ok (.iload_n 3, 1) := by decide +kernel
theorem dX7_findTimes_28 : decode cX7_findTimes 28 = .ok (.aload_n 0, 1) := by decide +kernel
theorem dX7_findTimes_29 : decode cX7_findTimes 29 = .ok (.getfield 105, 3) := by decide +kernel
theorem dX7_findTimes_32 : decode cX7_findTimes 32 = .ok (.iload_n 3, 1) := by decide +kernel
theorem dX7_findTimes_33 : decode cX7_findTimes 33 = .ok (.laload, 1) := by decide +kernel
theorem dX7_findTimes_34 : decode cX7_findTimes 34 = .ok (.lload_n 1, 1) := by decide +kernel
theorem dX7_findTimes_35 : decode cX7_findTimes 35 = .ok (.lsub, 1) := by decide +kernel
theorem dX7_findTimes_36 : decode cX7_findTimes 36 = .ok (.lastore, 1) := by decide +kernel
theorem dX7_findTimes_37 : decode cX7_findTimes 37 = .ok (.iconst 0, 1) := by decide +kernel
theorem dX7_findTimes_38 : decode cX7_findTimes 38 = .ok (.istore 4, 2) := by decide +kernel
theorem dX7_findTimes_40 : decode cX7_findTimes 40 = .ok (.iload 4, 2) := by decide +kernel
theorem dX7_findTimes_42 : decode cX7_findTimes 42 = .ok (.aload_n 0, 1) := by decide +kernel
theorem dX7_findTimes_43 : decode cX7_findTimes 43 = .ok (.getfield 246, 3) := by decide +kernel
theorem dX7_findTimes_46 : decode cX7_findTimes 46 = .ok (.if_icmp .ge 70, 3) := by decide +kernel
theorem dX7_findTimes_49 : decode cX7_findTimes 49 = .ok (.aload_n 0, 1) := by decide +kernel
theorem dX7_findTimes_50 : decode cX7_findTimes 50 = .ok (.getfield 126, 3) := by decide +kernel
theorem dX7_findTimes_53 : decode cX7_findTimes 53 = .ok (.bipush 30, 2) := by decide +kernel
theorem dX7_findTimes_55 : decode cX7_findTimes 55 = .ok (.iload 4, 2) := by decide +kernel
theorem dX7_findTimes_57 : decode cX7_findTimes 57 = .ok (.imul, 1) := by decide +kernel
theorem dX7_findTimes_58 : decode cX7_findTimes 58 = .ok (.iload_n 3, 1) := by decide +kernel
theorem dX7_findTimes_59 : decode cX7_findTimes 59 = .ok (.iadd, 1) := by decide +kernel
theorem dX7_findTimes_60 : decode cX7_findTimes 60 = .ok (.iaload, 1) := by decide +kernel
theorem dX7_findTimes_61 : decode cX7_findTimes 61 = .ok (.istore 5, 2) := by decide +kernel
theorem dX7_findTimes_63 : decode cX7_findTimes 63 = .ok (.iload 5, 2) := by decide +kernel
theorem dX7_findTimes_65 : decode cX7_findTimes 65 = .ok (.ifCond .lt 45, 3) := by decide +kernel
theorem dX7_findTimes_68 : decode cX7_findTimes 68 = .ok (.aload_n 0, 1) := by decide +kernel
theorem dX7_findTimes_69 : decode cX7_findTimes 69 = .ok (.getfield 105, 3) := by decide +kernel
theorem dX7_findTimes_72 : decode cX7_findTimes 72 = .ok (.iload 4, 2) := by decide +kernel
theorem dX7_findTimes_74 : decode cX7_findTimes 74 = .ok (.laload, 1) := by decide +kernel
theorem dX7_findTimes_75 : decode cX7_findTimes 75 = .ok (.lload_n 1, 1) := by decide +kernel
theorem dX7_findTimes_76 : decode cX7_findTimes 76 = .ok (.lsub, 1) := by decide +kernel
theorem dX7_findTimes_77 : decode cX7_findTimes 77 = .ok (.iload 5, 2) := by decide +kernel
theorem dX7_findTimes_79 : decode cX7_findTimes 79 = .ok (.i2l, 1) := by decide +kernel
theorem dX7_findTimes_80 : decode cX7_findTimes 80 = .ok (.ladd, 1) := by decide +kernel
theorem dX7_findTimes_81 : decode cX7_findTimes 81 = .ok (.aload_n 0, 1) := by decide +kernel
theorem dX7_findTimes_82 : decode cX7_findTimes 82 = .ok (.getfield 129, 3) := by decide +kernel
theorem dX7_findTimes_85 : decode cX7_findTimes 85 = .ok (.iload_n 3, 1) := by decide +kernel
theorem dX7_findTimes_86 : decode cX7_findTimes 86 = .ok (.laload, 1) := by decide +kernel
theorem dX7_findTimes_87 : decode cX7_findTimes 87 = .ok (.lcmp, 1) := by decide +kernel
theorem dX7_findTimes_88 : decode cX7_findTimes 88 = .ok (.ifCond .le 22, 3) := by decide +kernel
theorem dX7_findTimes_91 : decode cX7_findTimes 91 = .ok (.aload_n 0, 1) := by decide +kernel
theorem dX7_findTimes_92 : decode cX7_findTimes 92 = .ok (.getfield 129, 3) := by decide +kernel
theorem dX7_findTimes_95 : decode cX7_findTimes 95 = .ok (.iload_n 3, 1) := by decide +kernel
theorem dX7_findTimes_96 : decode cX7_findTimes 96 = .ok (.aload_n 0, 1) := by decide +kernel
theorem dX7_findTimes_97 : decode cX7_findTimes 97 = .ok (.getfield 105, 3) := by decide +kernel
theorem dX7_findTimes_100 : decode cX7_findTimes 100 = .ok (.iload 4, 2) := by decide +kernel
theorem dX7_findTimes_102 : decode cX7_findTimes 102 = .ok (.laload, 1) := by decide +kernel
theorem dX7_findTimes_103 : decode cX7_findTimes 103 = .ok (.lload_n 1, 1) := by decide +kernel
theorem dX7_findTimes_104 : decode cX7_findTimes 104 = .ok (.lsub, 1) := by decide +kernel
theorem dX7_findTimes_105 : decode cX7_findTimes 105 = .ok (.iload 5, 2) := by decide +kernel
theorem dX7_findTimes_107 : decode cX7_findTimes 107 = .ok (.i2l, 1) := by decide +kernel
theorem dX7_findTimes_108 : decode cX7_findTimes 108 = .ok (.ladd, 1) := by decide +kernel
theorem dX7_findTimes_109 : decode cX7_findTimes 109 = .ok (.lastore, 1) := by decide +kernel
theorem dX7_findTimes_110 : decode cX7_findTimes 110 = .ok (.iinc 4 1, 3) := by decide +kernel
theorem dX7_findTimes_113 : decode cX7_findTimes 113 = .ok (.goto (-73), 3) := by decide +kernel
theorem dX7_findTimes_116 : decode cX7_findTimes 116 = .ok (.iinc 3 1, 3) := by decide +kernel
theorem dX7_findTimes_119 : decode cX7_findTimes 119 = .ok (.goto (-104), 3) := by decide +kernel
theorem dX7_findTimes_122 : decode cX7_findTimes 122 = .ok (.iconst 1, 1) := by decide +kernel
theorem dX7_findTimes_123 : decode cX7_findTimes 123 = .ok (.ireturn, 1) := by decide +kernel
theorem dX7_order_0 : decode cX7_order 0 = .ok (.aload_n 0, 1) := by decide +kernel
theorem dX7_order_1 : decode cX7_order 1 = .ok (.invokevirtual 263, 3) := by decide +kernel
theorem dX7_order_4 : decode cX7_order 4 = .ok (.ifCond .eq 11, 3) := by decide +kernel
theorem dX7_order_7 : decode cX7_order 7 = .ok (.aload_n 0, 1) := by decide +kernel
theorem dX7_order_8 : decode cX7_order 8 = .ok (.iload_n 1, 1) := by decide +kernel
theorem dX7_order_9 : decode cX7_order 9 = .ok (.invokevirtual 249, 3) := by decide +kernel
theorem dX7_order_12 : decode cX7_order 12 = .ok (.ifCond .ne 7, 3) := by decide +kernel
theorem dX7_order_15 : decode cX7_order 15 = .ok (.ldc2_w 155, 3) := by decide +kernel
theorem dX7_order_18 : decode cX7_order 18 = .ok (.lreturn, 1) := by decide +kernel
theorem dX7_order_19 : decode cX7_order 19 = .ok (.iconst 0, 1) := by decide +kernel
theorem dX7_order_20 : decode cX7_order 20 = .ok (.istore_n 2, 1) := by decide +kernel
theorem dX7_order_21 : decode cX7_order 21 = .ok (.iload_n 2, 1) := by decide +kernel
theorem dX7_order_22 : decode cX7_order 22 = .ok (.aload_n 0, 1) := by decide +kernel
theorem dX7_order_23 : decode cX7_order 23 = .ok (.getfield 246, 3) := by decide +kernel
theorem dX7_order_26 : decode cX7_order 26 = .ok (.if_icmp .ge 85, 3) := by decide +kernel
theorem dX7_order_29 : decode cX7_order 29 = .ok (.iconst 0, 1) := by decide +kernel
theorem dX7_order_30 : decode cX7_order 30 = .ok (.istore_n 3, 1) := by decide +kernel
theorem dX7_order_31 : decode cX7_order 31 = .ok (.iconst 0, 1) := by decide +kernel
theorem dX7_order_32 : decode cX7_order 32 = .ok (.istore 4, 2) := by decide +kernel
theorem dX7_order_34 : decode cX7_order 34 = .ok (.iload 4, 2) := by decide +kernel
theorem dX7_order_36 : decode cX7_order 36 = .ok (.aload_n 0, 1) := by decide +kernel
theorem dX7_order_37 : decode cX7_order 37 = .ok (.getfield 246, 3) := by decide +kernel
theorem dX7_order_40 : decode cX7_order 40 = .ok (.if_icmp .ge 57, 3) := by decide +kernel
theorem dX7_order_43 : decode cX7_order 43 = .ok (.iload_n 3, 1) := by decide +kernel
theorem dX7_order_44 : decode cX7_order 44 = .ok (.aload_n 0, 1) := by decide +kernel
theorem dX7_order_45 : decode cX7_order 45 = .ok (.getfield 129, 3) := by decide +kernel
theorem dX7_order_48 : decode cX7_order 48 = .ok (.iload 4, 2) := by decide +kernel
theorem dX7_order_50 : decode cX7_order 50 = .ok (.laload, 1) := by decide +kernel
theorem dX7_order_51 : decode cX7_order 51 = .ok (.aload_n 0, 1) := by decide +kernel
theorem dX7_order_52 : decode cX7_order 52 = .ok (.getfield 129, 3) := by decide +kernel
theorem dX7_order_55 : decode cX7_order 55 = .ok (.iload_n 2, 1) := by decide +kernel
theorem dX7_order_56 : decode cX7_order 56 = .ok (.laload, 1) := by decide +kernel
theorem dX7_order_57 : decode cX7_order 57 = .ok (.lcmp, 1) := by decide +kernel
theorem dX7_order_58 : decode cX7_order 58 = .ok (.ifCond .lt 26, 3) := by decide +kernel
theorem dX7_order_61 : decode cX7_order 61 = .ok (.aload_n 0, 1) := by decide +kernel
theorem dX7_order_62 : decode cX7_order 62 = .ok (.getfield 129, 3) := by decide +kernel
theorem dX7_order_65 : decode cX7_order 65 = .ok (.iload 4, 2) := by decide +kernel
theorem dX7_order_67 : decode cX7_order 67 = .ok (.laload, 1) := by decide +kernel
theorem dX7_order_68 : decode cX7_order 68 = .ok (.aload_n 0, 1) := by decide +kernel
theorem dX7_order_69 : decode cX7_order 69 = .ok (.getfield 129, 3) := by decide +kernel
theorem dX7_order_72 : decode cX7_order 72 = .ok (.iload_n 2, 1) := by decide +kernel
theorem dX7_order_73 : decode cX7_order 73 = .ok (.laload, 1) := by decide +kernel
theorem dX7_order_74 : decode cX7_order 74 = .ok (.lcmp, 1) := by decide +kernel
theorem dX7_order_75 : decode cX7_order 75 = .ok (.ifCond .ne 13, 3) := by decide +kernel
theorem dX7_order_78 : decode cX7_order 78 = .ok (.iload 4, 2) := by decide +kernel
theorem dX7_order_80 : decode cX7_order 80 = .ok (.iload_n 2, 1) := by decide +kernel
theorem dX7_order_81 : decode cX7_order 81 = .ok (.if_icmp .ge 7, 3) := by decide +kernel
theorem dX7_order_84 : decode cX7_order 84 = .ok (.iconst 1, 1) := by decide +kernel
theorem dX7_order_85 : decode cX7_order 85 = .ok (.goto 4, 3) := by decide +kernel
theorem dX7_order_88 : decode cX7_order 88 = .ok (.iconst 0, 1) := by decide +kernel
theorem dX7_order_89 : decode cX7_order 89 = .ok (.iadd, 1) := by decide +kernel
theorem dX7_order_90 : decode cX7_order 90 = .ok (.istore_n 3, 1) := by decide +kernel
theorem dX7_order_91 : decode cX7_order 91 = .ok (.iinc 4 1, 3) := by decide +kernel
theorem dX7_order_94 : decode cX7_order 94 = .ok (.goto (-60), 3) := by decide +kernel
theorem dX7_order_97 : decode cX7_order 97 = .ok (.iload_n 3, 1) := by decide +kernel
theorem dX7_order_98 : decode cX7_order 98 = .ok (.iload_n 1, 1) := by decide +kernel
theorem dX7_order_99 : decode cX7_order 99 = .ok (.if_icmp .ne 6, 3) := by decide +kernel
theorem dX7_order_102 : decode cX7_order 102 = .ok (.iload_n 2, 1) := by decide +kernel
theorem dX7_order_103 : decode cX7_order 103 = .ok (.i2l, 1) := by decide +kernel
theorem dX7_order_104 : decode cX7_order 104 = .ok (.lreturn, 1) := by decide +kernel
theorem dX7_order_105 : decode cX7_order 105 = .ok (.iinc 2 1, 3) := by decide +kernel
theorem dX7_order_108 : decode cX7_order 108 = .ok (.goto (-87), 3) := by decide +kernel
theorem dX7_order_111 : decode cX7_order 111 = .ok (.ldc2_w 155, 3) := by decide +kernel
theorem dX7_order_114 : decode cX7_order 114 = .ok (.lreturn, 1) := by decide +kernel
theorem dX7_time_0 : decode cX7_time 0 = .ok (.aload_n 0, 1) := by decide +kernel
theorem dX7_time_1 : decode cX7_time 1 = .ok (.invokevirtual 263, 3) := by decide +kernel
theorem dX7_time_4 : decode cX7_time 4 = .ok (.ifCond .eq 20, 3) := by decide +kernel
theorem dX7_time_7 : decode cX7_time 7 = .ok (.aload_n 0, 1) := by decide +kernel
theorem dX7_time_8 : decode cX7_time 8 = .ok (.iload_n 1, 1) := by decide +kernel
theorem dX7_time_9 : decode cX7_time 9 = .ok (.invokevirtual 249, 3) := by decide +kernel
theorem dX7_time_12 : decode cX7_time 12 = .ok (.ifCond .eq 12, 3) := by decide +kernel
theorem dX7_time_15 : decode cX7_time 15 = .ok (.aload_n 0, 1) := by decide +kernel
theorem dX7_time_16 : decode cX7_time 16 = .ok (.getfield 129, 3) := by decide +kernel
theorem dX7_time_19 : decode cX7_time 19 = .ok (.iload_n 1, 1) := by decide +kernel
theorem dX7_time_20 : decode cX7_time 20 = .ok (.laload, 1) := by decide +kernel
theorem dX7_time_21 : decode cX7_time 21 = .ok (.goto 6, 3) := by decide +kernel
theorem dX7_time_24 : decode cX7_time 24 = .ok (.ldc2_w 155, 3) := by decide +kernel
theorem dX7_time_27 : decode cX7_time 27 = .ok (.lreturn, 1) := by decide +kernel
theorem dX7_ringFrom_0 : decode cX7_ringFrom 0 = .ok (.iconst 0, 1) := by decide +kernel
theorem dX7_ringFrom_1 : decode cX7_ringFrom 1 = .ok (.istore_n 2, 1) := by decide +kernel
theorem dX7_ringFrom_2 : decode cX7_ringFrom 2 = .ok (.iload_n 2, 1) := by decide +kernel
theorem dX7_ringFrom_3 : decode cX7_ringFrom 3 = .ok (.aload_n 0, 1) := by decide +kernel
theorem dX7_ringFrom_4 : decode cX7_ringFrom 4 = .ok (.getfield 246, 3) := by decide +kernel
theorem dX7_ringFrom_7 : decode cX7_ringFrom 7 = .ok (.if_icmp .ge 25, 3) := by decide +kernel
theorem dX7_ringFrom_10 : decode cX7_ringFrom 10 = .ok (.aload_n 0, 1) := by decide +kernel
theorem dX7_ringFrom_11 : decode cX7_ringFrom 11 = .ok (.getfield 132, 3) := by decide +kernel
theorem dX7_ringFrom_14 : decode cX7_ringFrom 14 = .ok (.iload_n 2, 1) := by decide +kernel
theorem dX7_ringFrom_15 : decode cX7_ringFrom 15 = .ok (.iload_n 2, 1) := by decide +kernel
theorem dX7_ringFrom_16 : decode cX7_ringFrom 16 = .ok (.iload_n 1, 1) := by decide +kernel
theorem dX7_ringFrom_17 : decode cX7_ringFrom 17 = .ok (.if_icmp .ne 7, 3) := by decide +kernel
theorem dX7_ringFrom_20 : decode cX7_ringFrom 20 = .ok (.iconst 0, 1) := by decide +kernel
theorem dX7_ringFrom_21 : decode cX7_ringFrom 21 = .ok (.goto 4, 3) := by decide +kernel
theorem dX7_ringFrom_24 : decode cX7_ringFrom 24 = .ok (.iconst (-1), 1) := by decide +kernel
theorem dX7_ringFrom_25 : decode cX7_ringFrom 25 = .ok (.iastore, 1) := by decide +kernel
theorem dX7_ringFrom_26 : decode cX7_ringFrom 26 = .ok (.iinc 2 1, 3) := by decide +kernel
theorem dX7_ringFrom_29 : decode cX7_ringFrom 29 = .ok (.goto (-27), 3) := by decide +kernel
theorem dX7_ringFrom_32 : decode cX7_ringFrom 32 = .ok (.iconst 1, 1) := by decide +kernel
theorem dX7_ringFrom_33 : decode cX7_ringFrom 33 = .ok (.istore_n 2, 1) := by decide +kernel
theorem dX7_ringFrom_34 : decode cX7_ringFrom 34 = .ok (.iconst 0, 1) := by decide +kernel
theorem dX7_ringFrom_35 : decode cX7_ringFrom 35 = .ok (.istore_n 3, 1) := by decide +kernel
theorem dX7_ringFrom_36 : decode cX7_ringFrom 36 = .ok (.iload_n 2, 1) := by decide +kernel
theorem dX7_ringFrom_37 : decode cX7_ringFrom 37 = .ok (.ifCond .eq 98, 3) := by decide +kernel
theorem dX7_ringFrom_40 : decode cX7_ringFrom 40 = .ok (.iconst 0, 1) := by decide +kernel
theorem dX7_ringFrom_41 : decode cX7_ringFrom 41 = .ok (.istore_n 2, 1) := by decide +kernel
theorem dX7_ringFrom_42 : decode cX7_ringFrom 42 = .ok (.iload_n 1, 1) := by decide +kernel
theorem dX7_ringFrom_43 : decode cX7_ringFrom 43 = .ok (.iconst 1, 1) := by decide +kernel
theorem dX7_ringFrom_44 : decode cX7_ringFrom 44 = .ok (.iadd, 1) := by decide +kernel
theorem dX7_ringFrom_45 : decode cX7_ringFrom 45 = .ok (.istore 4, 2) := by decide +kernel
theorem dX7_ringFrom_47 : decode cX7_ringFrom 47 = .ok (.iload 4, 2) := by decide +kernel
theorem dX7_ringFrom_49 : decode cX7_ringFrom 49 = .ok (.aload_n 0, 1) := by decide +kernel
theorem dX7_ringFrom_50 : decode cX7_ringFrom 50 = .ok (.getfield 246, 3) := by decide +kernel
theorem dX7_ringFrom_53 : decode cX7_ringFrom 53 = .ok (.if_icmp .ge 76, 3) := by decide +kernel
theorem dX7_ringFrom_56 : decode cX7_ringFrom 56 = .ok (.iload_n 1, 1) := by decide +kernel
theorem dX7_ringFrom_57 : decode cX7_ringFrom 57 = .ok (.istore 5, 2) := by decide +kernel
theorem dX7_ringFrom_59 : decode cX7_ringFrom 59 = .ok (.iload 5, 2) := by decide +kernel
theorem dX7_ringFrom_61 : decode cX7_ringFrom 61 = .ok (.aload_n 0, 1) := by decide +kernel
theorem dX7_ringFrom_62 : decode cX7_ringFrom 62 = .ok (.getfield 246, 3) := by decide +kernel
theorem dX7_ringFrom_65 : decode cX7_ringFrom 65 = .ok (.if_icmp .ge 58, 3) := by decide +kernel
theorem dX7_ringFrom_68 : decode cX7_ringFrom 68 = .ok (.aload_n 0, 1) := by decide +kernel
theorem dX7_ringFrom_69 : decode cX7_ringFrom 69 = .ok (.getfield 132, 3) := by decide +kernel
theorem dX7_ringFrom_72 : decode cX7_ringFrom 72 = .ok (.iload 4, 2) := by decide +kernel
theorem dX7_ringFrom_74 : decode cX7_ringFrom 74 = .ok (.iaload, 1) := by decide +kernel
theorem dX7_ringFrom_75 : decode cX7_ringFrom 75 = .ok (.ifCond .ge 48, 3) := by decide +kernel
theorem dX7_ringFrom_78 : decode cX7_ringFrom 78 = .ok (.aload_n 0, 1) := by decide +kernel
theorem dX7_ringFrom_79 : decode cX7_ringFrom 79 = .ok (.getfield 111, 3) := by decide +kernel
theorem dX7_ringFrom_82 : decode cX7_ringFrom 82 = .ok (.bipush 30, 2) := by decide +kernel
theorem dX7_ringFrom_84 : decode cX7_ringFrom 84 = .ok (.iload 4, 2) := by decide +kernel
theorem dX7_ringFrom_86 : decode cX7_ringFrom 86 = .ok (.imul, 1) := by decide +kernel
theorem dX7_ringFrom_87 : decode cX7_ringFrom 87 = .ok (.iload 5, 2) := by decide +kernel
theorem dX7_ringFrom_89 : decode cX7_ringFrom 89 = .ok (.iadd, 1) := by decide +kernel
theorem dX7_ringFrom_90 : decode cX7_ringFrom 90 = .ok (.baload, 1) := by decide +kernel
theorem dX7_ringFrom_91 : decode cX7_ringFrom 91 = .ok (.ifCond .eq 26, 3) := by decide +kernel
theorem dX7_ringFrom_94 : decode cX7_ringFrom 94 = .ok (.aload_n 0, 1) := by decide +kernel
theorem dX7_ringFrom_95 : decode cX7_ringFrom 95 = .ok (.getfield 132, 3) := by decide +kernel
theorem dX7_ringFrom_98 : decode cX7_ringFrom 98 = .ok (.iload 5, 2) := by decide +kernel
theorem dX7_ringFrom_100 : decode cX7_ringFrom 100 = .ok (.iaload, 1) := by decide +kernel
theorem dX7_ringFrom_101 : decode cX7_ringFrom 101 = .ok (.iload_n 3, 1) := by decide +kernel
theorem dX7_ringFrom_102 : decode cX7_ringFrom 102 = .ok (.if_icmp .ne 15, 3) := by decide +kernel
theorem dX7_ringFrom_105 : decode cX7_ringFrom 105 = .ok (.aload_n 0, 1) := by decide +kernel
theorem dX7_ringFrom_106 : decode cX7_ringFrom 106 = .ok (.getfield 132, 3) := by decide +kernel
theorem dX7_ringFrom_109 : decode cX7_ringFrom 109 = .ok (.iload 4, 2) := by decide +kernel
theorem dX7_ringFrom_111 : decode cX7_ringFrom 111 = .ok (.iload_n 3, 1) := by decide +kernel
theorem dX7_ringFrom_112 : decode cX7_ringFrom 112 = .ok (.iconst 1, 1) := by decide +kernel
theorem dX7_ringFrom_113 : decode cX7_ringFrom 113 = .ok (.iadd, 1) := by decide +kernel
theorem dX7_ringFrom_114 : decode cX7_ringFrom 114 = .ok (.iastore, 1) := by decide +kernel
theorem dX7_ringFrom_115 : decode cX7_ringFrom 115 = .ok (.iconst 1, 1) := by decide +kernel
theorem dX7_ringFrom_116 : decode cX7_ringFrom 116 = .ok (.istore_n 2, 1) := by decide +kernel
theorem dX7_ringFrom_117 : decode cX7_ringFrom 117 = .ok (.iinc 5 1, 3) := by decide +kernel
theorem dX7_ringFrom_120 : decode cX7_ringFrom 120 = .ok (.goto (-61), 3) := by decide +kernel
theorem dX7_ringFrom_123 : decode cX7_ringFrom 123 = .ok (.iinc 4 1, 3) := by decide +kernel
theorem dX7_ringFrom_126 : decode cX7_ringFrom 126 = .ok (.goto (-79), 3) := by decide +kernel
theorem dX7_ringFrom_129 : decode cX7_ringFrom 129 = .ok (.iinc 3 1, 3) := by decide +kernel
theorem dX7_ringFrom_132 : decode cX7_ringFrom 132 = .ok (.goto (-96), 3) := by decide +kernel
theorem dX7_ringFrom_135 : decode cX7_ringFrom 135 = .ok (.iconst 0, 1) := by decide +kernel
theorem dX7_ringFrom_136 : decode cX7_ringFrom 136 = .ok (.istore_n 3, 1) := by decide +kernel
theorem dX7_ringFrom_137 : decode cX7_ringFrom 137 = .ok (.iload_n 1, 1) := by decide +kernel
theorem dX7_ringFrom_138 : decode cX7_ringFrom 138 = .ok (.iconst 1, 1) := by decide +kernel
theorem dX7_ringFrom_139 : decode cX7_ringFrom 139 = .ok (.iadd, 1) := by decide +kernel
theorem dX7_ringFrom_140 : decode cX7_ringFrom 140 = .ok (.istore 4, 2) := by decide +kernel
theorem dX7_ringFrom_142 : decode cX7_ringFrom 142 = .ok (.iload 4, 2) := by decide +kernel
theorem dX7_ringFrom_144 : decode cX7_ringFrom 144 = .ok (.aload_n 0, 1) := by decide +kernel
theorem dX7_ringFrom_145 : decode cX7_ringFrom 145 = .ok (.getfield 246, 3) := by decide +kernel
theorem dX7_ringFrom_148 : decode cX7_ringFrom 148 = .ok (.if_icmp .ge 61, 3) := by decide +kernel
theorem dX7_ringFrom_151 : decode cX7_ringFrom 151 = .ok (.aload_n 0, 1) := by decide +kernel
theorem dX7_ringFrom_152 : decode cX7_ringFrom 152 = .ok (.getfield 111, 3) := by decide +kernel
theorem dX7_ringFrom_155 : decode cX7_ringFrom 155 = .ok (.bipush 30, 2) := by decide +kernel
theorem dX7_ringFrom_157 : decode cX7_ringFrom 157 = .ok (.iload_n 1, 1) := by decide +kernel
theorem dX7_ringFrom_158 : decode cX7_ringFrom 158 = .ok (.imul, 1) := by decide +kernel
theorem dX7_ringFrom_159 : decode cX7_ringFrom 159 = .ok (.iload 4, 2) := by decide +kernel
theorem dX7_ringFrom_161 : decode cX7_ringFrom 161 = .ok (.iadd, 1) := by decide +kernel
theorem dX7_ringFrom_162 : decode cX7_ringFrom 162 = .ok (.baload, 1) := by decide +kernel
theorem dX7_ringFrom_163 : decode cX7_ringFrom 163 = .ok (.ifCond .eq 40, 3) := by decide +kernel
theorem dX7_ringFrom_166 : decode cX7_ringFrom 166 = .ok (.aload_n 0, 1) := by decide +kernel
theorem dX7_ringFrom_167 : decode cX7_ringFrom 167 = .ok (.getfield 132, 3) := by decide +kernel
theorem dX7_ringFrom_170 : decode cX7_ringFrom 170 = .ok (.iload 4, 2) := by decide +kernel
theorem dX7_ringFrom_172 : decode cX7_ringFrom 172 = .ok (.iaload, 1) := by decide +kernel
theorem dX7_ringFrom_173 : decode cX7_ringFrom 173 = .ok (.ifCond .le 30, 3) := by decide +kernel
theorem dX7_ringFrom_176 : decode cX7_ringFrom 176 = .ok (.iload_n 3, 1) := by decide +kernel
theorem dX7_ringFrom_177 : decode cX7_ringFrom 177 = .ok (.ifCond .eq 16, 3) := by decide +kernel
theorem dX7_ringFrom_180 : decode cX7_ringFrom 180 = .ok (.aload_n 0, 1) := by decide +kernel
theorem dX7_ringFrom_181 : decode cX7_ringFrom 181 = .ok (.getfield 132, 3) := by decide +kernel
theorem dX7_ringFrom_184 : decode cX7_ringFrom 184 = .ok (.iload 4, 2) := by decide +kernel
theorem dX7_ringFrom_186 : decode cX7_ringFrom 186 = .ok (.iaload, 1) := by decide +kernel
theorem dX7_ringFrom_187 : decode cX7_ringFrom 187 = .ok (.iconst 1, 1) := by decide +kernel
theorem dX7_ringFrom_188 : decode cX7_ringFrom 188 = .ok (.iadd, 1) := by decide +kernel
theorem dX7_ringFrom_189 : decode cX7_ringFrom 189 = .ok (.iload_n 3, 1) := by decide +kernel
theorem dX7_ringFrom_190 : decode cX7_ringFrom 190 = .ok (.if_icmp .ge 13, 3) := by decide +kernel
theorem dX7_ringFrom_193 : decode cX7_ringFrom 193 = .ok (.aload_n 0, 1) := by decide +kernel
theorem dX7_ringFrom_194 : decode cX7_ringFrom 194 = .ok (.getfield 132, 3) := by decide +kernel
theorem dX7_ringFrom_197 : decode cX7_ringFrom 197 = .ok (.iload 4, 2) := by decide +kernel
theorem dX7_ringFrom_199 : decode cX7_ringFrom 199 = .ok (.iaload, 1) := by decide +kernel
theorem dX7_ringFrom_200 : decode cX7_ringFrom 200 = .ok (.iconst 1, 1) := by decide +kernel
theorem dX7_ringFrom_201 : decode cX7_ringFrom 201 = .ok (.iadd, 1) := by decide +kernel
theorem dX7_ringFrom_202 : decode cX7_ringFrom 202 = .ok (.istore_n 3, 1) := by decide +kernel
theorem dX7_ringFrom_203 : decode cX7_ringFrom 203 = .ok (.iinc 4 1, 3) := by decide +kernel
theorem dX7_ringFrom_206 : decode cX7_ringFrom 206 = .ok (.goto (-64), 3) := by decide +kernel
theorem dX7_ringFrom_209 : decode cX7_ringFrom 209 = .ok (.iload_n 3, 1) := by decide +kernel
theorem dX7_ringFrom_210 : decode cX7_ringFrom 210 = .ok (.ireturn, 1) := by decide +kernel
theorem dX7_ring_0 : decode cX7_ring 0 = .ok (.iconst 0, 1) := by decide +kernel
theorem dX7_ring_1 : decode cX7_ring 1 = .ok (.istore_n 2, 1) := by decide +kernel
theorem dX7_ring_2 : decode cX7_ring 2 = .ok (.iconst (-1), 1) := by decide +kernel
theorem dX7_ring_3 : decode cX7_ring 3 = .ok (.istore_n 3, 1) := by decide +kernel
theorem dX7_ring_4 : decode cX7_ring 4 = .ok (.iconst 0, 1) := by decide +kernel
theorem dX7_ring_5 : decode cX7_ring 5 = .ok (.istore 4, 2) := by decide +kernel
theorem dX7_ring_7 : decode cX7_ring 7 = .ok (.iload 4, 2) := by decide +kernel
theorem dX7_ring_9 : decode cX7_ring 9 = .ok (.aload_n 0, 1) := by decide +kernel
theorem dX7_ring_10 : decode cX7_ring 10 = .ok (.getfield 246, 3) := by decide +kernel
theorem dX7_ring_13 : decode cX7_ring 13 = .ok (.if_icmp .ge 38, 3) := by decide +kernel
theorem dX7_ring_16 : decode cX7_ring 16 = .ok (.aload_n 0, 1) := by decide +kernel
theorem dX7_ring_17 : decode cX7_ring 17 = .ok (.iload 4, 2) := by decide +kernel
theorem dX7_ring_19 : decode cX7_ring 19 = .ok (.invokevirtual 266, 3) := by decide +kernel
theorem dX7_ring_22 : decode cX7_ring 22 = .ok (.istore 5, 2) := by decide +kernel
theorem dX7_ring_24 : decode cX7_ring 24 = .ok (.iload 5, 2) := by decide +kernel
theorem dX7_ring_26 : decode cX7_ring 26 = .ok (.ifCond .le 19, 3) := by decide +kernel
theorem dX7_ring_29 : decode cX7_ring 29 = .ok (.iload_n 2, 1) := by decide +kernel
theorem dX7_ring_30 : decode cX7_ring 30 = .ok (.ifCond .eq 9, 3) := by decide +kernel
theorem dX7_ring_33 : decode cX7_ring 33 = .ok (.iload 5, 2) := by decide +kernel
theorem dX7_ring_35 : decode cX7_ring 35 = .ok (.iload_n 2, 1) := by decide +kernel
theorem dX7_ring_36 : decode cX7_ring 36 = .ok (.if_icmp .ge 9, 3) := by decide +kernel
theorem dX7_ring_39 : decode cX7_ring 39 = .ok (.iload 5, 2) := by decide +kernel
theorem dX7_ring_41 : decode cX7_ring 41 = .ok (.istore_n 2, 1) := by decide +kernel
theorem dX7_ring_42 : decode cX7_ring 42 = .ok (.iload 4, 2) := by decide +kernel
theorem dX7_ring_44 : decode cX7_ring 44 = .ok (.istore_n 3, 1) := by decide +kernel
theorem dX7_ring_45 : decode cX7_ring 45 = .ok (.iinc 4 1, 3) := by decide +kernel
theorem dX7_ring_48 : decode cX7_ring 48 = .ok (.goto (-41), 3) := by decide +kernel
theorem dX7_ring_51 : decode cX7_ring 51 = .ok (.iload_n 3, 1) := by decide +kernel
theorem dX7_ring_52 : decode cX7_ring 52 = .ok (.ifCond .lt 7, 3) := by decide +kernel
theorem dX7_ring_55 : decode cX7_ring 55 = .ok (.iload_n 1, 1) := by decide +kernel
theorem dX7_ring_56 : decode cX7_ring 56 = .ok (.ifCond .ge 7, 3) := by decide +kernel
theorem dX7_ring_59 : decode cX7_ring 59 = .ok (.ldc2_w 155, 3) := by decide +kernel
theorem dX7_ring_62 : decode cX7_ring 62 = .ok (.lreturn, 1) := by decide +kernel
theorem dX7_ring_63 : decode cX7_ring 63 = .ok (.iload_n 1, 1) := by decide +kernel
theorem dX7_ring_64 : decode cX7_ring 64 = .ok (.iload_n 2, 1) := by decide +kernel
theorem dX7_ring_65 : decode cX7_ring 65 = .ok (.if_icmp .lt 7, 3) := by decide +kernel
theorem dX7_ring_68 : decode cX7_ring 68 = .ok (.ldc2_w 244, 3) := by decide +kernel
theorem dX7_ring_71 : decode cX7_ring 71 = .ok (.lreturn, 1) := by decide +kernel
theorem dX7_ring_72 : decode cX7_ring 72 = .ok (.aload_n 0, 1) := by decide +kernel
theorem dX7_ring_73 : decode cX7_ring 73 = .ok (.iload_n 3, 1) := by decide +kernel
theorem dX7_ring_74 : decode cX7_ring 74 = .ok (.invokevirtual 266, 3) := by decide +kernel
theorem dX7_ring_77 : decode cX7_ring 77 = .ok (.istore_n 2, 1) := by decide +kernel
theorem dX7_ring_78 : decode cX7_ring 78 = .ok (.iload_n 3, 1) := by decide +kernel
theorem dX7_ring_79 : decode cX7_ring 79 = .ok (.istore 4, 2) := by decide +kernel
theorem dX7_ring_81 : decode cX7_ring 81 = .ok (.iconst 0, 1) := by decide +kernel
theorem dX7_ring_82 : decode cX7_ring 82 = .ok (.istore 5, 2) := by decide +kernel
theorem dX7_ring_84 : decode cX7_ring 84 = .ok (.iload 5, 2) := by decide +kernel
theorem dX7_ring_86 : decode cX7_ring 86 = .ok (.iload_n 1, 1) := by decide +kernel
theorem dX7_ring_87 : decode cX7_ring 87 = .ok (.if_icmp .ge 56, 3) := by decide +kernel
theorem dX7_ring_90 : decode cX7_ring 90 = .ok (.iload_n 3, 1) := by decide +kernel
theorem dX7_ring_91 : decode cX7_ring 91 = .ok (.iconst 1, 1) := by decide +kernel
theorem dX7_ring_92 : decode cX7_ring 92 = .ok (.iadd, 1) := by decide +kernel
theorem dX7_ring_93 : decode cX7_ring 93 = .ok (.istore 6, 2) := by decide +kernel
theorem dX7_ring_95 : decode cX7_ring 95 = .ok (.aload_n 0, 1) := by decide +kernel
theorem dX7_ring_96 : decode cX7_ring 96 = .ok (.getfield 111, 3) := by decide +kernel
theorem dX7_ring_99 : decode cX7_ring 99 = .ok (.bipush 30, 2) := by decide +kernel
theorem dX7_ring_101 : decode cX7_ring 101 = .ok (.iload 4, 2) := by decide +kernel
theorem dX7_ring_103 : decode cX7_ring 103 = .ok (.imul, 1) := by decide +kernel
theorem dX7_ring_104 : decode cX7_ring 104 = .ok (.iload 6, 2) := by decide +kernel
theorem dX7_ring_106 : decode cX7_ring 106 = .ok (.iadd, 1) := by decide +kernel
theorem dX7_ring_107 : decode cX7_ring 107 = .ok (.baload, 1) := by decide +kernel
theorem dX7_ring_108 : decode cX7_ring 108 = .ok (.ifCond .eq 19, 3) := by decide +kernel
theorem dX7_ring_111 : decode cX7_ring 111 = .ok (.aload_n 0, 1) := by decide +kernel
theorem dX7_ring_112 : decode cX7_ring 112 = .ok (.getfield 132, 3) := by decide +kernel
theorem dX7_ring_115 : decode cX7_ring 115 = .ok (.iload 6, 2) := by decide +kernel
theorem dX7_ring_117 : decode cX7_ring 117 = .ok (.iaload, 1) := by decide +kernel
theorem dX7_ring_118 : decode cX7_ring 118 = .ok (.iload_n 2, 1) := by decide +kernel
theorem dX7_ring_119 : decode cX7_ring 119 = .ok (.iconst 1, 1) := by decide +kernel
theorem dX7_ring_120 : decode cX7_ring 120 = .ok (.isub, 1) := by decide +kernel
theorem dX7_ring_121 : decode cX7_ring 121 = .ok (.iload 5, 2) := by decide +kernel
theorem dX7_ring_123 : decode cX7_ring 123 = .ok (.isub, 1) := by decide +kernel
theorem dX7_ring_124 : decode cX7_ring 124 = .ok (.if_icmp .eq 9, 3) := by decide +kernel
theorem dX7_ring_127 : decode cX7_ring 127 = .ok (.iinc 6 1, 3) := by decide +kernel
theorem dX7_ring_130 : decode cX7_ring 130 = .ok (.goto (-35), 3) := by decide +kernel
theorem dX7_ring_133 : decode cX7_ring 133 = .ok (.iload 6, 2) := by decide +kernel
theorem dX7_ring_135 : decode cX7_ring 135 = .ok (.istore 4, 2) := by decide +kernel
theorem dX7_ring_137 : decode cX7_ring 137 = .ok (.iinc 5 1, 3) := by decide +kernel
theorem dX7_ring_140 : decode cX7_ring 140 = .ok (.goto (-56), 3) := by decide +kernel
theorem dX7_ring_143 : decode cX7_ring 143 = .ok (.iload 4, 2) := by decide +kernel
theorem dX7_ring_145 : decode cX7_ring 145 = .ok (.i2l, 1) := by decide +kernel
theorem dX7_ring_146 : decode cX7_ring 146 = .ok (.lreturn, 1) := by decide +kernel
theorem dX7_count_0 : decode cX7_count 0 = .ok (.iload_n 1, 1) := by decide +kernel
theorem dX7_count_1 : decode cX7_count 1 = .ok (.tableswitch 117 0 6 #[43, 49, 55, 94, 100, 106, 112], 43) := by decide +kernel
theorem dX7_count_44 : decode cX7_count 44 = .ok (.aload_n 0, 1) := by decide +kernel
theorem dX7_count_45 : decode cX7_count 45 = .ok (.getfield 139, 3) := by decide +kernel
theorem dX7_count_48 : decode cX7_count 48 = .ok (.i2l, 1) := by decide +kernel
theorem dX7_count_49 : decode cX7_count 49 = .ok (.lreturn, 1) := by decide +kernel
theorem dX7_count_50 : decode cX7_count 50 = .ok (.aload_n 0, 1) := by decide +kernel
theorem dX7_count_51 : decode cX7_count 51 = .ok (.getfield 197, 3) := by decide +kernel
theorem dX7_count_54 : decode cX7_count 54 = .ok (.i2l, 1) := by decide +kernel
theorem dX7_count_55 : decode cX7_count 55 = .ok (.lreturn, 1) := by decide +kernel
theorem dX7_count_56 : decode cX7_count 56 = .ok (.iconst 0, 1) := by decide +kernel
theorem dX7_count_57 : decode cX7_count 57 = .ok (.istore_n 2, 1) := by decide +kernel
theorem dX7_count_58 : decode cX7_count 58 = .ok (.iconst 0, 1) := by decide +kernel
theorem dX7_count_59 : decode cX7_count 59 = .ok (.istore_n 3, 1) := by decide +kernel
theorem dX7_count_60 : decode cX7_count 60 = .ok (.iload_n 3, 1) := by decide +kernel
theorem dX7_count_61 : decode cX7_count 61 = .ok (.aload_n 0, 1) := by decide +kernel
theorem dX7_count_62 : decode cX7_count 62 = .ok (.getfield 197, 3) := by decide +kernel
theorem dX7_count_65 : decode cX7_count 65 = .ok (.if_icmp .ge 27, 3) := by decide +kernel
theorem dX7_count_68 : decode cX7_count 68 = .ok (.iload_n 2, 1) := by decide +kernel
theorem dX7_count_69 : decode cX7_count 69 = .ok (.aload_n 0, 1) := by decide +kernel
theorem dX7_count_70 : decode cX7_count 70 = .ok (.getfield 78, 3) := by decide +kernel
theorem dX7_count_73 : decode cX7_count 73 = .ok (.iload_n 3, 1) := by decide +kernel
theorem dX7_count_74 : decode cX7_count 74 = .ok (.iaload, 1) := by decide +kernel
theorem dX7_count_75 : decode cX7_count 75 = .ok (.iconst 2, 1) := by decide +kernel
theorem dX7_count_76 : decode cX7_count 76 = .ok (.if_icmp .ge 7, 3) := by decide +kernel
theorem dX7_count_79 : decode cX7_count 79 = .ok (.iconst 1, 1) := by decide +kernel
theorem dX7_count_80 : decode cX7_count 80 = .ok (.goto 4, 3) := by decide +kernel
theorem dX7_count_83 : decode cX7_count 83 = .ok (.iconst 0, 1) := by decide +kernel
theorem dX7_count_84 : decode cX7_count 84 = .ok (.iadd, 1) := by decide +kernel
theorem dX7_count_85 : decode cX7_count 85 = .ok (.istore_n 2, 1) := by decide +kernel
theorem dX7_count_86 : decode cX7_count 86 = .ok (.iinc 3 1, 3) := by decide +kernel
theorem dX7_count_89 : decode cX7_count 89 = .ok (.goto (-29), 3) := by decide +kernel
theorem dX7_count_92 : decode cX7_count 92 = .ok (.iload_n 2, 1) := by decide +kernel
theorem dX7_count_93 : decode cX7_count 93 = .ok (.i2l, 1) := by decide +kernel
theorem dX7_count_94 : decode cX7_count 94 = .ok (.lreturn, 1) := by decide +kernel
theorem dX7_count_95 : decode cX7_count 95 = .ok (.aload_n 0, 1) := by decide +kernel
theorem dX7_count_96 : decode cX7_count 96 = .ok (.getfield 238, 3) := by decide +kernel
theorem dX7_count_99 : decode cX7_count 99 = .ok (.i2l, 1) := by decide +kernel
theorem dX7_count_100 : decode cX7_count 100 = .ok (.lreturn, 1) := by decide +kernel
theorem dX7_count_101 : decode cX7_count 101 = .ok (.aload_n 0, 1) := by decide +kernel
theorem dX7_count_102 : decode cX7_count 102 = .ok (.getfield 246, 3) := by decide +kernel
theorem dX7_count_105 : decode cX7_count 105 = .ok (.i2l, 1) := by decide +kernel
theorem dX7_count_106 : decode cX7_count 106 = .ok (.lreturn, 1) := by decide +kernel
theorem dX7_count_107 : decode cX7_count 107 = .ok (.aload_n 0, 1) := by decide +kernel
theorem dX7_count_108 : decode cX7_count 108 = .ok (.getfield 252, 3) := by decide +kernel
theorem dX7_count_111 : decode cX7_count 111 = .ok (.i2l, 1) := by decide +kernel
theorem dX7_count_112 : decode cX7_count 112 = .ok (.lreturn, 1) := by decide +kernel
theorem dX7_count_113 : decode cX7_count 113 = .ok (.aload_n 0, 1) := by decide +kernel
theorem dX7_count_114 : decode cX7_count 114 = .ok (.getfield 149, 3) := by decide +kernel
theorem dX7_count_117 : decode cX7_count 117 = .ok (.lreturn, 1) := by decide +kernel
theorem dX7_count_118 : decode cX7_count 118 = .ok (.ldc2_w 155, 3) := by decide +kernel
theorem dX7_count_121 : decode cX7_count 121 = .ok (.lreturn, 1) := by decide +kernel
end
section
/-! the abstract heap: logical numbers for cells; live, ints, longs, references -/
abbrev HP : Type := (Nat → Bool) × (Nat → Nat → Int32) × (Nat → Nat → Int64) × (Nat → Nat → Option Nat)
def liv (h : HP) : Nat → Bool := h.1
def vI (h : HP) : Nat → Nat → Int32 := h.2.1
def vL (h : HP) : Nat → Nat → Int64 := h.2.2.1
def vP (h : HP) : Nat → Nat → Option Nat := h.2.2.2
def up2 {α : Type} (f : Nat → Nat → α) (a k : Nat) (v : α) : Nat → Nat → α := fun b j => if b = a then (if j = k then v else f b j) else f b j
def sI (h : HP) (a k : Nat) (v : Int32) : HP := (h.1, up2 h.2.1 a k v, h.2.2.1, h.2.2.2)
def sL (h : HP) (a k : Nat) (v : Int64) : HP := (h.1, h.2.1, up2 h.2.2.1 a k v, h.2.2.2)
def sP (h : HP) (a k : Nat) (v : Option Nat) : HP := (h.1, h.2.1, h.2.2.1, up2 h.2.2.2 a k v)
/-- a new cell: live, all its values the defaults -/
def sN (h : HP) (a : Nat) : HP := (fun b => if b = a then true else h.1 b, fun b => if b = a then fun _ => 0 else h.2.1 b, fun b => if b = a then fun _ => 0 else h.2.2.1 b, fun b => if b = a then fun _ => none else h.2.2.2 b)
/-! the classes by number: 0 to 7 as vwCl has them; 8 int[], 9 long[], 10 boolean[], 11 Member[], 12 Letter[], 13 Stamp[], 14 Span[] -/
def CN (c : Nat) : String := match c with
  | 0 => RX0 | 1 => RX1 | 2 => RX2 | 3 => RX3 | 4 => RX4 | 5 => RX5 | 6 => RX6 | _ => RX7
def TT (c : Nat) : u_T := match c with
  | 0 => TX0 | 1 => TX1 | 2 => TX2 | 3 => TX3 | 4 => TX4 | 5 => TX5 | 6 => TX6 | _ => TX7
def NF (c : Nat) : Nat := match c with
  | 0 => 4 | 1 => 7 | 2 => 16 | 3 => 14 | 4 => 4 | 5 => 4 | 6 => 9 | _ => 52
def FT (c : Nat) : Nat → FieldType := match c with
  | 0 => tyX0 | 1 => tyX1 | 2 => tyX2 | 3 => tyX3 | 4 => tyX4 | 5 => tyX5 | 6 => tyX6 | _ => tyX7
def AT (t : Nat) : FieldType := match t with
  | 8 => .int | 9 => .long | 10 => .boolean | 11 => .object RX2 | 12 => .object RX1 | 13 => .object RX5 | _ => .object RX4
/-! what kind of cell a logical number is of, and how long an array is -/
def kd0 (a : Nat) : Nat := match a with
  | 1 => 6 | 2 => 11 | 3 => 12 | 4 => 13 | 5 => 0 | 6 => 8 | 7 => 9 | 8 => 9
  | 10 => 3 | 11 => 9 | 12 => 9 | 13 => 8 | 14 => 8 | 15 => 8 | 16 => 9 | 17 => 8 | 18 => 8 | 19 => 8
  | 100 => 7
  | a => match tyX7 (a - 101) with
    | .array .int => 8
    | .array .long => 9
    | .array .boolean => 10
    | _ => 15
def kd (a : Nat) : Nat := if a < 1000 then kd0 a else match a / 1000 with
  | 1 => 2 | 2 => 4 | 3 => 14 | 4 => 4 | 5 => 1 | 6 => 5 | _ => 15
def ln0 (a : Nat) : Nat :=
  if a < 100 then (match a with | 2 => 10 | 3 => 200 | 4 => 100 | 6 => 10 | 7 => 10 | 8 => 10 | 11 => 30 | 12 => 30 | 13 => 60 | 14 => 60 | 15 => 30 | 16 => 30 | 17 => 30 | 18 => 30 | 19 => 30 | _ => 0)
  else if a < 119 then 10 else if a < 123 then 100 else if a < 131 then 200 else if a < 136 then 100 else if a < 140 then 30 else if a < 141 then 900 else if a < 145 then 10 else if a < 146 then 20 else if a < 151 then 900 else 30
def ln (a : Nat) : Nat := if a < 1000 then ln0 a else if a < 4000 then 10 else 0
theorem kd_mem {i : Nat} (h : i < 1000) : kd (1000 + i) = 2 := by
  have e : (1000 + i) / 1000 = 1 := by omega
  simp [kd, e]; omega
theorem kd_own {i : Nat} (h : i < 1000) : kd (2000 + i) = 4 := by
  have e : (2000 + i) / 1000 = 2 := by omega
  simp [kd, e]; omega
theorem kd_arr {i : Nat} (h : i < 1000) : kd (3000 + i) = 14 := by
  have e : (3000 + i) / 1000 = 3 := by omega
  simp [kd, e]; omega
theorem kd_hrd {i : Nat} (h : i < 1000) : kd (4000 + i) = 4 := by
  have e : (4000 + i) / 1000 = 4 := by omega
  simp [kd, e]; omega
theorem kd_let {i : Nat} (h : i < 1000) : kd (5000 + i) = 1 := by
  have e : (5000 + i) / 1000 = 5 := by omega
  simp [kd, e]; omega
theorem kd_stp {i : Nat} (h : i < 1000) : kd (6000 + i) = 5 := by
  have e : (6000 + i) / 1000 = 6 := by omega
  simp [kd, e]; omega
theorem ln_arr {i : Nat} (h : i < 1000) : ln (3000 + i) = 10 := by
  unfold ln
  rw [if_neg (by omega), if_pos (by omega)]
/-! a value with its logical number turned into an address -/
def rn (ad : Nat → Nat) (v : Value) : Value := match v with
  | .ref a => .ref (ad a)
  | v => v
def rq (ad : Nat → Nat) (q : Nat × Value) : Nat × Value := (q.1, rn ad q.2)
def rok (h : HP) (v : Value) : Prop := match v with
  | .ref a => liv h a = true
  | _ => True
/-- a field's value, as the heap has it -/
def fv (ad : Nat → Nat) (ty : FieldType) (i : Int32) (l : Int64) (p : Option Nat) : Value := match ty with
  | .long => .long l
  | .object _ => va_rf (p.map ad)
  | .array _ => va_rf (p.map ad)
  | _ => .int i
def aF (t : Nat) (I : Nat → Int32) (L : Nat → Int64) (P : Nat → Option Nat) : (Nat → Int32) ⊕ (Nat → Int64) ⊕ (Nat → UInt32) ⊕ (Nat → UInt64) ⊕ (Nat → Option Nat) := match t with
  | 8 => .inl I
  | 9 => .inr (.inl L)
  | 10 => .inl I
  | _ => .inr (.inr (.inr (.inr P)))
/-- base, class numbers and slots, array classes -/
abbrev GG : Type := Nat × va_G × (Nat → ClassId)
def cE (g : GG) (h : HP) (ad : Nat → Nat) (a : Nat) (H : Heap) : Prop :=
  if kd a < 8 then t_OB (ad a) (g.2.1.1 (kd a)) (NF (kd a)) (g.2.1.2 (kd a)) H (fun k => fv ad (FT (kd a) k) (vI h a k) (vL h a k) (vP h a k))
  else H[ad a]? = some (vp_cell (g.2.2 (kd a)) (ln a, aF (kd a) (vI h a) (vL h a) (fun k => (vP h a k).map ad)))
def Rp (g : GG) (h : HP) (ad : Nat → Nat) (H : Heap) : Prop :=
  (∀ a, liv h a = true → g.1 ≤ ad a ∧ cE g h ad a H) ∧ (∀ a b, liv h a = true → liv h b = true → ad a = ad b → a = b) ∧ (∀ a k b, liv h a = true → vP h a k = some b → liv h b = true)
theorem cE_lt {g : GG} {h : HP} {ad : Nat → Nat} {a : Nat} {H : Heap} (hc : cE g h ad a H) : ad a < H.size := by
  unfold cE at hc
  split at hc
  · obtain ⟨cell, h1, -⟩ := hc
    exact (Array.getElem?_eq_some_iff.mp h1).1
  · exact (Array.getElem?_eq_some_iff.mp hc).1
theorem cE_kept {g : GG} {h h' : HP} {ad ad' : Nat → Nat} {a : Nat} {H H' : Heap} (hc : cE g h ad a H) (ea : ad' a = ad a) (eH : H'[ad a]? = H[ad a]?) (eI : vI h' a = vI h a) (eL : vL h' a = vL h a) (eP : vP h' a = vP h a) (em : ∀ k b, vP h a k = some b → ad' b = ad b) : cE g h' ad' a H' := by
  have e2 : ∀ k, (vP h a k).map ad' = (vP h a k).map ad := by
    intro k
    cases hk : vP h a k with
    | none => rfl
    | some b => simp [em k b hk]
  unfold cE at hc ⊢
  split at hc
  · rw [if_pos (by assumption), eI, eL, eP, ea]
    obtain ⟨cell, h1, h2, h3, h4⟩ := hc
    refine ⟨cell, by rw [eH]; exact h1, h2, h3, fun k hk => ?_⟩
    rw [h4 k hk]
    have e3 : fv ad (FT (kd a) k) (vI h a k) (vL h a k) (vP h a k) = fv ad' (FT (kd a) k) (vI h a k) (vL h a k) (vP h a k) := by
      unfold fv
      split <;> first | rfl | rw [e2 k]
    exact congrArg some e3
  · rw [if_neg (by assumption), eI, eL, eP, ea, eH, hc]
    have e4 : (fun k => (vP h a k).map ad') = (fun k => (vP h a k).map ad) := funext e2
    rw [e4]
/-- one cell is written -/
theorem Rp_put {g : GG} {h h' : HP} {ad : Nat → Nat} {a : Nat} {H H' : Heap} (hR : Rp g h ad H) (ha : liv h a = true) (el : liv h' = liv h) (oI : ∀ b, b ≠ a → vI h' b = vI h b) (oL : ∀ b, b ≠ a → vL h' b = vL h b) (oP : ∀ b, b ≠ a → vP h' b = vP h b) (hp : ∀ k b, vP h' a k = some b → liv h b = true) (oH : ∀ q, q ≠ ad a → H'[q]? = H[q]?) (hc : cE g h' ad a H') : Rp g h' ad H' := by
  obtain ⟨h1, h2, h3⟩ := hR
  refine ⟨fun b hb => ?_, fun b c hb hcc e => ?_, fun b k c hb e => ?_⟩
  · rw [el] at hb
    by_cases hba : b = a
    · subst hba
      exact ⟨(h1 b hb).1, hc⟩
    · have hne : ad b ≠ ad a := fun e => hba (h2 b a hb ha e)
      exact ⟨(h1 b hb).1, cE_kept (h1 b hb).2 rfl (oH _ hne) (oI b hba) (oL b hba) (oP b hba) (fun _ _ _ => rfl)⟩
  · rw [el] at hb hcc
    exact h2 b c hb hcc e
  · rw [el] at hb ⊢
    by_cases hba : b = a
    · subst hba
      exact hp k c e
    · rw [oP b hba] at e
      exact h3 b k c hb e
def up1 (ad : Nat → Nat) (a n : Nat) : Nat → Nat := fun b => if b = a then n else ad b
/-- one cell is new -/
theorem Rp_new {g : GG} {h : HP} {ad : Nat → Nat} {a : Nat} {H H' : Heap} (hR : Rp g h ad H) (ha : liv h a = false) (hB : g.1 ≤ H.size) (oH : ∀ q, q < H.size → H'[q]? = H[q]?) (hc : cE g (sN h a) (up1 ad a H.size) a H') : Rp g (sN h a) (up1 ad a H.size) H' ∧ ∀ b, liv h b = true → liv (sN h a) b = true ∧ up1 ad a H.size b = ad b := by
  obtain ⟨h1, h2, h3⟩ := hR
  have ne : ∀ b, liv h b = true → b ≠ a := fun b hb e => by rw [e, ha] at hb; cases hb
  have key : ∀ b, liv h b = true → liv (sN h a) b = true ∧ up1 ad a H.size b = ad b := by
    intro b hb
    exact ⟨by show (if b = a then true else h.1 b) = true; rw [if_neg (ne b hb)]; exact hb, if_neg (ne b hb)⟩
  have back : ∀ b, b ≠ a → liv (sN h a) b = true → liv h b = true := by
    intro b hb hl
    have : (if b = a then true else h.1 b) = true := hl
    rwa [if_neg hb] at this
  refine ⟨⟨fun b hb => ?_, fun b c hb hcc e => ?_, fun b k c hb e => ?_⟩, key⟩
  · by_cases hba : b = a
    · subst hba
      exact ⟨by show g.1 ≤ up1 ad b H.size b; rw [show up1 ad b H.size b = H.size from if_pos rfl]; exact hB, hc⟩
    · have hb' := back b hba hb
      refine ⟨by rw [(key b hb').2]; exact (h1 b hb').1, cE_kept (h1 b hb').2 (key b hb').2 (oH _ (cE_lt (h1 b hb').2)) ?_ ?_ ?_ (fun k c e => (key c (h3 b k c hb' e)).2)⟩
      · show (if b = a then _ else _) = _; rw [if_neg hba]; rfl
      · show (if b = a then _ else _) = _; rw [if_neg hba]; rfl
      · show (if b = a then _ else _) = _; rw [if_neg hba]; rfl
  · by_cases hba : b = a
    · by_cases hca : c = a
      · rw [hba, hca]
      · have hc' := back c hca hcc
        rw [hba, show up1 ad a H.size a = H.size from if_pos rfl, (key c hc').2] at e
        have := cE_lt (h1 c hc').2
        omega
    · have hb' := back b hba hb
      by_cases hca : c = a
      · rw [hca, show up1 ad a H.size a = H.size from if_pos rfl, (key b hb').2] at e
        have := cE_lt (h1 b hb').2
        omega
      · have hc' := back c hca hcc
        rw [(key b hb').2, (key c hc').2] at e
        exact h2 b c hb' hc' e
  · by_cases hba : b = a
    · have e' : (if b = a then (fun _ => none) else h.2.2.2 b) k = some c := e
      rw [if_pos hba] at e'
      cases e'
    · have e' : (if b = a then (fun _ => none) else h.2.2.2 b) k = some c := e
      rw [if_neg hba] at e'
      exact (key c (h3 b k c (back b hba hb) e')).1
end
section
/-! the words that every method may use: all of the tables' that are kept over a warming of the machine -/
def gw : List Cond := lw_tbl.filter goodWord
theorem gw_of {w : Cond} (h : w ∈ lw_tbl) (g : goodWord w = true) : w ∈ gw := List.mem_filter.mpr ⟨h, g⟩
theorem gw_good : GoodIn gw gw := fun _ h => ⟨h, good_of_word (List.mem_filter.mp h).2⟩
/-- links to private members of a nest mate: not kept as words, carried beside -/
def nW : List (String × Nat × MethodName × String) := [(RX2, 36, yX4_init, RX6), (RX2, 52, yX6_floorOf, RX6), (RX4, 23, yX6_atLeast, RX6), (RX4, 29, yX6_atMost, RX6), (RX1, 63, yX6_atMost, RX6), (RX3, 84, yX6_ceilOf, RX6)]
def tysOf (g : GG) : List (ClassId × FieldType) := [(g.2.2 8, AT 8), (g.2.2 9, AT 9), (g.2.2 10, AT 10), (g.2.2 11, AT 11), (g.2.2 12, AT 12), (g.2.2 13, AT 13), (g.2.2 14, AT 14)]
def Wd (g : GG) (s : State) : Prop := va_K g.2.1 vwCl (tysOf g) s ∧ (∀ q ∈ nW, va_Nw (.methodLinkNest q.1 q.2.1 q.2.2.1 q.2.2.2) s) ∧ (va_AO RX2 s ∧ va_AO RX1 s ∧ va_AO RX5 s ∧ va_AO RX4 s) ∧ g.1 ≤ s.heap.size
/-- a method: its own part of the names, code, locals, answer's type, name, room, what it asks of its start -/
abbrev MD : Type := String × ByteArray × Nat × Option FieldType × String × Room × (State → Prop)
def mOwn (M : MD) : String := M.1
def mCode (M : MD) : ByteArray := M.2.1
def mLoc (M : MD) : Nat := M.2.2.1
def mRet (M : MD) : Option FieldType := M.2.2.2.1
def mNm (M : MD) : String := M.2.2.2.2.1
def mRm (M : MD) : Room := M.2.2.2.2.2.1
def mX (M : MD) : State → Prop := M.2.2.2.2.2.2
def Cxt (g : GG) (M : MD) (p : Program) (s : State) (m : MethodId) (args : Array Value) (meth : Method) (c : Code) : Prop :=
  p.tables.exec = Jvm.exec ∧ c.code = mCode M ∧ meth.sig.returnType = mRet M ∧ c.maxLocals = mLoc M ∧ s.vm.findClass (mOwn M) = some m.cls ∧ (∀ w ∈ gw, w.before args s = true) ∧ meth.locks = false ∧ meth.name = mNm M ∧ mX M s ∧ Wd g s
def Ext (h0 : HP) (ad0 : Nat → Nat) (h : HP) (ad : Nat → Nat) : Prop := ∀ a, liv h0 a = true → liv h a = true ∧ ad a = ad0 a
def BA (g : GG) : Nat → Prop := fun q => g.1 ≤ q
def QQ (g : GG) (h0 : HP) (ad0 : Nat → Nat) (Post : Option Value → HP → Prop) : Array Value → State → Outcome → State → Prop := fun _ st o t =>
  ∃ (v : Option Value) (h' : HP) (ad' : Nat → Nat), o = .returned (v.map (rn ad')) ∧ Post v h' ∧ Rp g h' ad' t.heap ∧ Ext h0 ad0 h' ad' ∧ (∀ w, v = some w → rok h' w) ∧ va_F (BA g) st t
def WP (g : GG) (M : MD) (pc : Nat) (lv : List (Nat × Value)) (st : List Value) (h : HP) (cs ss : Nat) (Post : Option Value → HP → Prop) : Prop :=
  ∀ (p : Program) (l : Launch) (e : Env) (s : State) (m : MethodId) (args : Array Value) (below : List Frame) (meth : Method) (c : Code) (H : Heap) (locs : List Loc) (ls : Array Slot) (ad : Nat → Nat) (h0 : HP) (ad0 : Nat → Nat),
    Cxt g M p s m args meth c → Rp g h ad H → va_S (BA g) s.heap H locs → lv_has ls (mLoc M) (lv.map (rq ad)) → (∀ v ∈ st, rok h v) → (∀ q ∈ lv, rok h q.2) → Ext h0 ad0 h ad →
    W p l e (mRm M) s m args below meth c H locs cs ss (MQ below (QQ g h0 ad0 Post) args s (mRm M).cells (mRm M).slots (BA g)) (F0 m pc ls (st.map (rn ad)))
/-- a method, called with these arguments -/
def CT (g : GG) (M : MD) (av : List Value) (h : HP) (Post : Option Value → HP → Prop) : Prop := WP g M 0 (lv_args 0 av) [] h 0 0 Post
section Basics
variable {g : GG} {M : MD} {pc : Nat} {lv : List (Nat × Value)} {st : List Value} {h : HP} {cs ss : Nat} {Post : Option Value → HP → Prop}
theorem fa1 {P : Value → Prop} {a : Value} {l : List Value} (h : ∀ v ∈ a :: l, P v) : P a := h a List.mem_cons_self
theorem fat {P : Value → Prop} {a : Value} {l : List Value} (h : ∀ v ∈ a :: l, P v) : ∀ v ∈ l, P v := fun v hv => h v (List.mem_cons_of_mem _ hv)
theorem fac {P : Value → Prop} {a : Value} {l : List Value} (h : P a) (h2 : ∀ v ∈ l, P v) : ∀ v ∈ a :: l, P v := List.forall_mem_cons.mpr ⟨h, h2⟩
theorem rq_at {ad : Nat → Nat} {k i : Nat} {v : Value} (hk : lv[k]? = some (i, v)) : (lv.map (rq ad))[k]? = some (i, rn ad v) := by
  rw [List.getElem?_map, hk]; rfl
theorem rq_ok {k i : Nat} {v : Value} (hk : lv[k]? = some (i, v)) (ho : ∀ q ∈ lv, rok h q.2) : rok h v := ho _ (List.mem_of_getElem? hk)
theorem rn_cat (ad : Nat → Nat) (v : Value) : (rn ad v).category = v.category := by cases v <;> rfl
def stI (lv : List (Nat × Value)) (i : Nat) (v : Value) : List (Nat × Value) := (i, v) :: lv.filter (fun q => !(q.1 == i) && !(q.1 + 1 == i && q.2.category == 2))
def stL (lv : List (Nat × Value)) (i : Nat) (v : Value) : List (Nat × Value) := (i, v) :: lv.filter (fun q => !(q.1 == i) && (!(q.1 == i + 1) && !(q.1 + 1 == i && q.2.category == 2)))
theorem stI_rq (ad : Nat → Nat) (i : Nat) (v : Value) : (i, rn ad v) :: (lv.map (rq ad)).filter (fun q => !(q.1 == i) && !(q.1 + 1 == i && q.2.category == 2)) = (stI lv i v).map (rq ad) := by
  unfold stI
  rw [List.map_cons, List.filter_map]
  congr 1
  congr 1
  apply List.filter_congr
  intro q _
  show (!((rq ad q).1 == i) && !((rq ad q).1 + 1 == i && (rq ad q).2.category == 2)) = _
  rw [show (rq ad q).2.category = q.2.category from rn_cat ad q.2]
  rfl
theorem stL_rq (ad : Nat → Nat) (i : Nat) (v : Value) : (i, rn ad v) :: (lv.map (rq ad)).filter (fun q => !(q.1 == i) && (!(q.1 == i + 1) && !(q.1 + 1 == i && q.2.category == 2))) = (stL lv i v).map (rq ad) := by
  unfold stL
  rw [List.map_cons, List.filter_map]
  congr 1
  congr 1
  apply List.filter_congr
  intro q _
  show (!((rq ad q).1 == i) && (!((rq ad q).1 == i + 1) && !((rq ad q).1 + 1 == i && (rq ad q).2.category == 2))) = _
  rw [show (rq ad q).2.category = q.2.category from rn_cat ad q.2]
  rfl
theorem stI_ok {i : Nat} {v : Value} (hv : rok h v) (ho : ∀ q ∈ lv, rok h q.2) : ∀ q ∈ stI lv i v, rok h q.2 := by
  intro q hq
  rcases List.mem_cons.mp hq with rfl | hq
  · exact hv
  · exact ho q (List.mem_filter.mp hq).1
theorem stL_ok {i : Nat} {v : Value} (hv : rok h v) (ho : ∀ q ∈ lv, rok h q.2) : ∀ q ∈ stL lv i v, rok h q.2 := by
  intro q hq
  rcases List.mem_cons.mp hq with rfl | hq
  · exact hv
  · exact ho q (List.mem_filter.mp hq).1
theorem wp_iconst {n : Int} {v : Int32} (d : decode (mCode M) pc = .ok (.iconst n, 1)) (hv : Int32.ofInt n = v) (k : WP g M (pc + 1) lv (.int v :: st) h cs ss Post) : WP g M pc lv (st) h cs ss Post := by
  intro p l e s m args below meth c H locs ls ad h0 ad0 hC hR hS hl ho hq hE
  exact lv_iconst hC.1 hC.2.1  d hv (k p l e s m args below meth c H locs ls ad h0 ad0 hC hR hS hl (fac trivial ho) hq hE)
theorem wp_bipush {n : Int} {v : Int32} (d : decode (mCode M) pc = .ok (.bipush n, 2)) (hv : (Int8.ofInt n).toInt32 = v) (k : WP g M (pc + 2) lv (.int v :: st) h cs ss Post) : WP g M pc lv (st) h cs ss Post := by
  intro p l e s m args below meth c H locs ls ad h0 ad0 hC hR hS hl ho hq hE
  exact lv_bipush hC.1 hC.2.1  d hv (k p l e s m args below meth c H locs ls ad h0 ad0 hC hR hS hl (fac trivial ho) hq hE)
theorem wp_sipush {n : Int} {v : Int32} (d : decode (mCode M) pc = .ok (.sipush n, 3)) (hv : (Int16.ofInt n).toInt32 = v) (k : WP g M (pc + 3) lv (.int v :: st) h cs ss Post) : WP g M pc lv (st) h cs ss Post := by
  intro p l e s m args below meth c H locs ls ad h0 ad0 hC hR hS hl ho hq hE
  exact lv_sipush hC.1 hC.2.1  d hv (k p l e s m args below meth c H locs ls ad h0 ad0 hC hR hS hl (fac trivial ho) hq hE)
theorem wp_lconst {n : Fin 2} {v : Int64} (d : decode (mCode M) pc = .ok (.lconst n, 1)) (hv : Int64.ofNat (n : Nat) = v) (k : WP g M (pc + 1) lv (.long v :: st) h cs ss Post) : WP g M pc lv (st) h cs ss Post := by
  intro p l e s m args below meth c H locs ls ad h0 ad0 hC hR hS hl ho hq hE
  exact lv_lconst hC.1 hC.2.1  d hv (k p l e s m args below meth c H locs ls ad h0 ad0 hC hR hS hl (fac trivial ho) hq hE)
theorem wp_null  (d : decode (mCode M) pc = .ok (.aconst_null, 1))  (k : WP g M (pc + 1) lv (.null :: st) h cs ss Post) : WP g M pc lv (st) h cs ss Post := by
  intro p l e s m args below meth c H locs ls ad h0 ad0 hC hR hS hl ho hq hE
  exact lv_null hC.1 hC.2.1  d  (k p l e s m args below meth c H locs ls ad h0 ad0 hC hR hS hl (fac trivial ho) hq hE)
theorem wp_ldc {i : Nat} {v : Int32} (d : decode (mCode M) pc = .ok (.ldc i, 2)) (hw : Cond.constant (mOwn M) i v ∈ lw_tbl) (k : WP g M (pc + 2) lv (.int v :: st) h cs ss Post) : WP g M pc lv st h cs ss Post := by
  intro p l e s m args below meth c H locs ls ad h0 ad0 hC hR hS hl ho hq hE
  exact lv_ldc hC.1 hC.2.1 hC.2.2.2.2.1 (hC.2.2.2.2.2.1 _ (gw_of hw rfl)) d (k p l e s m args below meth c H locs ls ad h0 ad0 hC hR hS hl (fac trivial ho) hq hE)
theorem wp_ldc2 {i : Nat} {v : Int64} (d : decode (mCode M) pc = .ok (.ldc2_w i, 3)) (hw : Cond.constantLong (mOwn M) i v ∈ lw_tbl) (k : WP g M (pc + 3) lv (.long v :: st) h cs ss Post) : WP g M pc lv st h cs ss Post := by
  intro p l e s m args below meth c H locs ls ad h0 ad0 hC hR hS hl ho hq hE
  exact lv_ldc2 hC.1 hC.2.1 hC.2.2.2.2.1 (hC.2.2.2.2.2.1 _ (gw_of hw rfl)) d (k p l e s m args below meth c H locs ls ad h0 ad0 hC hR hS hl (fac trivial ho) hq hE)
theorem wp_iload {i : Nat} {x : Int32} (d : decode (mCode M) pc = .ok (.iload i, 2)) (q : Nat) (hk : lv[q]? = some (i, .int x)) (k : WP g M (pc + 2) lv (.int x :: st) h cs ss Post) : WP g M pc lv (st) h cs ss Post := by
  intro p l e s m args below meth c H locs ls ad h0 ad0 hC hR hS hl ho hq hE
  exact lv_iload hC.1 hC.2.1  d (lv_at hl q (rq_at hk)) (k p l e s m args below meth c H locs ls ad h0 ad0 hC hR hS hl (fac (rq_ok hk hq) ho) hq hE)
theorem wp_iload_n {n : Fin 4} {i : Nat} {x : Int32} (d : decode (mCode M) pc = .ok (.iload_n n, 1)) (hi : (n : Nat) = i) (q : Nat) (hk : lv[q]? = some (i, .int x)) (k : WP g M (pc + 1) lv (.int x :: st) h cs ss Post) : WP g M pc lv (st) h cs ss Post := by
  intro p l e s m args below meth c H locs ls ad h0 ad0 hC hR hS hl ho hq hE
  exact lv_iload_n hC.1 hC.2.1  d hi (lv_at hl q (rq_at hk)) (k p l e s m args below meth c H locs ls ad h0 ad0 hC hR hS hl (fac (rq_ok hk hq) ho) hq hE)
theorem wp_lload {i : Nat} {x : Int64} (d : decode (mCode M) pc = .ok (.lload i, 2)) (q : Nat) (hk : lv[q]? = some (i, .long x)) (k : WP g M (pc + 2) lv (.long x :: st) h cs ss Post) : WP g M pc lv (st) h cs ss Post := by
  intro p l e s m args below meth c H locs ls ad h0 ad0 hC hR hS hl ho hq hE
  exact lv_lload hC.1 hC.2.1  d (lv_at hl q (rq_at hk)) (k p l e s m args below meth c H locs ls ad h0 ad0 hC hR hS hl (fac (rq_ok hk hq) ho) hq hE)
theorem wp_lload_n {n : Fin 4} {i : Nat} {x : Int64} (d : decode (mCode M) pc = .ok (.lload_n n, 1)) (hi : (n : Nat) = i) (q : Nat) (hk : lv[q]? = some (i, .long x)) (k : WP g M (pc + 1) lv (.long x :: st) h cs ss Post) : WP g M pc lv (st) h cs ss Post := by
  intro p l e s m args below meth c H locs ls ad h0 ad0 hC hR hS hl ho hq hE
  exact lv_lload_n hC.1 hC.2.1  d hi (lv_at hl q (rq_at hk)) (k p l e s m args below meth c H locs ls ad h0 ad0 hC hR hS hl (fac (rq_ok hk hq) ho) hq hE)
theorem wp_aload {i : Nat} {x : Nat} (d : decode (mCode M) pc = .ok (.aload i, 2)) (q : Nat) (hk : lv[q]? = some (i, .ref x)) (k : WP g M (pc + 2) lv (.ref x :: st) h cs ss Post) : WP g M pc lv (st) h cs ss Post := by
  intro p l e s m args below meth c H locs ls ad h0 ad0 hC hR hS hl ho hq hE
  exact lv_aload hC.1 hC.2.1  d (lv_at hl q (rq_at hk)) (k p l e s m args below meth c H locs ls ad h0 ad0 hC hR hS hl (fac (rq_ok hk hq) ho) hq hE)
theorem wp_aload_n {n : Fin 4} {i : Nat} {x : Nat} (d : decode (mCode M) pc = .ok (.aload_n n, 1)) (hi : (n : Nat) = i) (q : Nat) (hk : lv[q]? = some (i, .ref x)) (k : WP g M (pc + 1) lv (.ref x :: st) h cs ss Post) : WP g M pc lv (st) h cs ss Post := by
  intro p l e s m args below meth c H locs ls ad h0 ad0 hC hR hS hl ho hq hE
  exact lv_aload_n hC.1 hC.2.1  d hi (lv_at hl q (rq_at hk)) (k p l e s m args below meth c H locs ls ad h0 ad0 hC hR hS hl (fac (rq_ok hk hq) ho) hq hE)
theorem wp_aloadN {i : Nat} (d : decode (mCode M) pc = .ok (.aload i, 2)) (q : Nat) (hk : lv[q]? = some (i, .null)) (k : WP g M (pc + 2) lv (.null :: st) h cs ss Post) : WP g M pc lv (st) h cs ss Post := by
  intro p l e s m args below meth c H locs ls ad h0 ad0 hC hR hS hl ho hq hE
  exact lv_aloadN hC.1 hC.2.1  d (lv_at hl q (rq_at hk)) (k p l e s m args below meth c H locs ls ad h0 ad0 hC hR hS hl (fac trivial ho) hq hE)
theorem wp_aload_nN {n : Fin 4} {i : Nat} (d : decode (mCode M) pc = .ok (.aload_n n, 1)) (hi : (n : Nat) = i) (q : Nat) (hk : lv[q]? = some (i, .null)) (k : WP g M (pc + 1) lv (.null :: st) h cs ss Post) : WP g M pc lv (st) h cs ss Post := by
  intro p l e s m args below meth c H locs ls ad h0 ad0 hC hR hS hl ho hq hE
  exact lv_aload_nN hC.1 hC.2.1  d hi (lv_at hl q (rq_at hk)) (k p l e s m args below meth c H locs ls ad h0 ad0 hC hR hS hl (fac trivial ho) hq hE)
theorem wp_istore {i : Nat} {x : Int32} {lv' : List (Nat × Value)} (d : decode (mCode M) pc = .ok (.istore i, 2)) (hn : i < mLoc M) (hlv : stI lv i (.int x) = lv') (k : WP g M (pc + 2) lv' st h cs ss Post) : WP g M pc lv (.int x :: st) h cs ss Post := by
  intro p l e s m args below meth c H locs ls ad h0 ad0 hC hR hS hl ho hq hE
  subst hlv
  exact lv_istore hC.1 hC.2.1 d hl hn (stI_rq ad i (.int x)) (fun ls' hl' => k p l e s m args below meth c H locs ls' ad h0 ad0 hC hR hS hl' (fat ho) (stI_ok (fa1 ho) hq) hE)
theorem wp_istore_n {n : Fin 4} {i : Nat} {x : Int32} {lv' : List (Nat × Value)} (d : decode (mCode M) pc = .ok (.istore_n n, 1)) (hi : (n : Nat) = i) (hn : i < mLoc M) (hlv : stI lv i (.int x) = lv') (k : WP g M (pc + 1) lv' st h cs ss Post) : WP g M pc lv (.int x :: st) h cs ss Post := by
  intro p l e s m args below meth c H locs ls ad h0 ad0 hC hR hS hl ho hq hE
  subst hlv
  exact lv_istore_n hC.1 hC.2.1 d hi hl hn (stI_rq ad i (.int x)) (fun ls' hl' => k p l e s m args below meth c H locs ls' ad h0 ad0 hC hR hS hl' (fat ho) (stI_ok (fa1 ho) hq) hE)
theorem wp_lstore {i : Nat} {x : Int64} {lv' : List (Nat × Value)} (d : decode (mCode M) pc = .ok (.lstore i, 2)) (hn : i + 1 < mLoc M) (hlv : stL lv i (.long x) = lv') (k : WP g M (pc + 2) lv' st h cs ss Post) : WP g M pc lv (.long x :: st) h cs ss Post := by
  intro p l e s m args below meth c H locs ls ad h0 ad0 hC hR hS hl ho hq hE
  subst hlv
  exact lv_lstore hC.1 hC.2.1 d hl hn (stL_rq ad i (.long x)) (fun ls' hl' => k p l e s m args below meth c H locs ls' ad h0 ad0 hC hR hS hl' (fat ho) (stL_ok (fa1 ho) hq) hE)
theorem wp_lstore_n {n : Fin 4} {i : Nat} {x : Int64} {lv' : List (Nat × Value)} (d : decode (mCode M) pc = .ok (.lstore_n n, 1)) (hi : (n : Nat) = i) (hn : i + 1 < mLoc M) (hlv : stL lv i (.long x) = lv') (k : WP g M (pc + 1) lv' st h cs ss Post) : WP g M pc lv (.long x :: st) h cs ss Post := by
  intro p l e s m args below meth c H locs ls ad h0 ad0 hC hR hS hl ho hq hE
  subst hlv
  exact lv_lstore_n hC.1 hC.2.1 d hi hl hn (stL_rq ad i (.long x)) (fun ls' hl' => k p l e s m args below meth c H locs ls' ad h0 ad0 hC hR hS hl' (fat ho) (stL_ok (fa1 ho) hq) hE)
theorem wp_astore {i : Nat} {x : Nat} {lv' : List (Nat × Value)} (d : decode (mCode M) pc = .ok (.astore i, 2)) (hn : i < mLoc M) (hlv : stI lv i (.ref x) = lv') (k : WP g M (pc + 2) lv' st h cs ss Post) : WP g M pc lv (.ref x :: st) h cs ss Post := by
  intro p l e s m args below meth c H locs ls ad h0 ad0 hC hR hS hl ho hq hE
  subst hlv
  exact lv_astore hC.1 hC.2.1 d hl hn (stI_rq ad i (.ref x)) (fun ls' hl' => k p l e s m args below meth c H locs ls' ad h0 ad0 hC hR hS hl' (fat ho) (stI_ok (fa1 ho) hq) hE)
theorem wp_astore_n {n : Fin 4} {i : Nat} {x : Nat} {lv' : List (Nat × Value)} (d : decode (mCode M) pc = .ok (.astore_n n, 1)) (hi : (n : Nat) = i) (hn : i < mLoc M) (hlv : stI lv i (.ref x) = lv') (k : WP g M (pc + 1) lv' st h cs ss Post) : WP g M pc lv (.ref x :: st) h cs ss Post := by
  intro p l e s m args below meth c H locs ls ad h0 ad0 hC hR hS hl ho hq hE
  subst hlv
  exact lv_astore_n hC.1 hC.2.1 d hi hl hn (stI_rq ad i (.ref x)) (fun ls' hl' => k p l e s m args below meth c H locs ls' ad h0 ad0 hC hR hS hl' (fat ho) (stI_ok (fa1 ho) hq) hE)
theorem wp_astoreN {i : Nat} {lv' : List (Nat × Value)} (d : decode (mCode M) pc = .ok (.astore i, 2)) (hn : i < mLoc M) (hlv : stI lv i (.null) = lv') (k : WP g M (pc + 2) lv' st h cs ss Post) : WP g M pc lv (.null :: st) h cs ss Post := by
  intro p l e s m args below meth c H locs ls ad h0 ad0 hC hR hS hl ho hq hE
  subst hlv
  exact lv_astoreN hC.1 hC.2.1 d hl hn (stI_rq ad i (.null)) (fun ls' hl' => k p l e s m args below meth c H locs ls' ad h0 ad0 hC hR hS hl' (fat ho) (stI_ok (fa1 ho) hq) hE)
theorem wp_astore_nN {n : Fin 4} {i : Nat} {lv' : List (Nat × Value)} (d : decode (mCode M) pc = .ok (.astore_n n, 1)) (hi : (n : Nat) = i) (hn : i < mLoc M) (hlv : stI lv i (.null) = lv') (k : WP g M (pc + 1) lv' st h cs ss Post) : WP g M pc lv (.null :: st) h cs ss Post := by
  intro p l e s m args below meth c H locs ls ad h0 ad0 hC hR hS hl ho hq hE
  subst hlv
  exact lv_astore_nN hC.1 hC.2.1 d hi hl hn (stI_rq ad i (.null)) (fun ls' hl' => k p l e s m args below meth c H locs ls' ad h0 ad0 hC hR hS hl' (fat ho) (stI_ok (fa1 ho) hq) hE)
theorem wp_iinc {i q : Nat} {n : Int} {x v : Int32} {lv' : List (Nat × Value)} (d : decode (mCode M) pc = .ok (.iinc i n, 3)) (hk : lv[q]? = some (i, .int x)) (hv : x + Int32.ofInt n = v) (hn : i < mLoc M) (hlv : stI lv i (.int v) = lv') (k : WP g M (pc + 3) lv' st h cs ss Post) : WP g M pc lv st h cs ss Post := by
  intro p l e s m args below meth c H locs ls ad h0 ad0 hC hR hS hl ho hq hE
  subst hlv
  exact lv_iinc hC.1 hC.2.1 d hl (rq_at hk) hv hn (stI_rq ad i (.int v)) (fun ls' hl' => k p l e s m args below meth c H locs ls' ad h0 ad0 hC hR hS hl' ho (stI_ok trivial hq) hE)
theorem wp_dup {v : Value} (d : decode (mCode M) pc = .ok (.dup, 1)) (hv : v.category = 1) (k : WP g M (pc + 1) lv (v :: v :: st) h cs ss Post) : WP g M pc lv (v :: st) h cs ss Post := by
  intro p l e s m args below meth c H locs ls ad h0 ad0 hC hR hS hl ho hq hE
  exact lv_dup hC.1 hC.2.1  d (by rw [rn_cat]; exact hv) (k p l e s m args below meth c H locs ls ad h0 ad0 hC hR hS hl (fac (fa1 ho) ho) hq hE)
theorem wp_dup2_11 {v w : Value} (d : decode (mCode M) pc = .ok (.dup2, 1)) (hv : v.category = 1) (hw : w.category = 1) (k : WP g M (pc + 1) lv (v :: w :: v :: w :: st) h cs ss Post) : WP g M pc lv (v :: w :: st) h cs ss Post := by
  intro p l e s m args below meth c H locs ls ad h0 ad0 hC hR hS hl ho hq hE
  exact lv_dup2_11 hC.1 hC.2.1  d (by rw [rn_cat]; exact hv) (by rw [rn_cat]; exact hw) (k p l e s m args below meth c H locs ls ad h0 ad0 hC hR hS hl (fac (fa1 ho) (fac (fa1 (fat ho)) ho)) hq hE)
theorem wp_dup2_2 {v : Value} (d : decode (mCode M) pc = .ok (.dup2, 1)) (hv : v.category = 2) (k : WP g M (pc + 1) lv (v :: v :: st) h cs ss Post) : WP g M pc lv (v :: st) h cs ss Post := by
  intro p l e s m args below meth c H locs ls ad h0 ad0 hC hR hS hl ho hq hE
  exact lv_dup2_2 hC.1 hC.2.1  d (by rw [rn_cat]; exact hv) (k p l e s m args below meth c H locs ls ad h0 ad0 hC hR hS hl (fac (fa1 ho) ho) hq hE)
theorem wp_dup_x1 {v w : Value} (d : decode (mCode M) pc = .ok (.dup_x1, 1)) (hv : v.category = 1) (hw : w.category = 1) (k : WP g M (pc + 1) lv (v :: w :: v :: st) h cs ss Post) : WP g M pc lv (v :: w :: st) h cs ss Post := by
  intro p l e s m args below meth c H locs ls ad h0 ad0 hC hR hS hl ho hq hE
  exact lv_dup_x1 hC.1 hC.2.1  d (by rw [rn_cat]; exact hv) (by rw [rn_cat]; exact hw) (k p l e s m args below meth c H locs ls ad h0 ad0 hC hR hS hl (fac (fa1 ho) (fac (fa1 (fat ho)) (fac (fa1 ho) (fat (fat ho))))) hq hE)
theorem wp_dup2_x1_2 {v w : Value} (d : decode (mCode M) pc = .ok (.dup2_x1, 1)) (hv : v.category = 2) (hw : w.category = 1) (k : WP g M (pc + 1) lv (v :: w :: v :: st) h cs ss Post) : WP g M pc lv (v :: w :: st) h cs ss Post := by
  intro p l e s m args below meth c H locs ls ad h0 ad0 hC hR hS hl ho hq hE
  exact lv_dup2_x1_2 hC.1 hC.2.1  d (by rw [rn_cat]; exact hv) (by rw [rn_cat]; exact hw) (k p l e s m args below meth c H locs ls ad h0 ad0 hC hR hS hl (fac (fa1 ho) (fac (fa1 (fat ho)) (fac (fa1 ho) (fat (fat ho))))) hq hE)
theorem wp_iadd {x y : Int32} (d : decode (mCode M) pc = .ok (.iadd, 1))  (k : WP g M (pc + 1) lv (.int (x + y) :: st) h cs ss Post) : WP g M pc lv (.int y :: .int x :: st) h cs ss Post := by
  intro p l e s m args below meth c H locs ls ad h0 ad0 hC hR hS hl ho hq hE
  exact lv_iadd hC.1 hC.2.1  d  (k p l e s m args below meth c H locs ls ad h0 ad0 hC hR hS hl (fac trivial (fat (fat ho))) hq hE)
theorem wp_isub {x y : Int32} (d : decode (mCode M) pc = .ok (.isub, 1))  (k : WP g M (pc + 1) lv (.int (x - y) :: st) h cs ss Post) : WP g M pc lv (.int y :: .int x :: st) h cs ss Post := by
  intro p l e s m args below meth c H locs ls ad h0 ad0 hC hR hS hl ho hq hE
  exact lv_isub hC.1 hC.2.1  d  (k p l e s m args below meth c H locs ls ad h0 ad0 hC hR hS hl (fac trivial (fat (fat ho))) hq hE)
theorem wp_imul {x y : Int32} (d : decode (mCode M) pc = .ok (.imul, 1))  (k : WP g M (pc + 1) lv (.int (x * y) :: st) h cs ss Post) : WP g M pc lv (.int y :: .int x :: st) h cs ss Post := by
  intro p l e s m args below meth c H locs ls ad h0 ad0 hC hR hS hl ho hq hE
  exact lv_imul hC.1 hC.2.1  d  (k p l e s m args below meth c H locs ls ad h0 ad0 hC hR hS hl (fac trivial (fat (fat ho))) hq hE)
theorem wp_iand {x y : Int32} (d : decode (mCode M) pc = .ok (.iand, 1))  (k : WP g M (pc + 1) lv (.int (x &&& y) :: st) h cs ss Post) : WP g M pc lv (.int y :: .int x :: st) h cs ss Post := by
  intro p l e s m args below meth c H locs ls ad h0 ad0 hC hR hS hl ho hq hE
  exact lv_iand hC.1 hC.2.1  d  (k p l e s m args below meth c H locs ls ad h0 ad0 hC hR hS hl (fac trivial (fat (fat ho))) hq hE)
theorem wp_ior {x y : Int32} (d : decode (mCode M) pc = .ok (.ior, 1))  (k : WP g M (pc + 1) lv (.int (x ||| y) :: st) h cs ss Post) : WP g M pc lv (.int y :: .int x :: st) h cs ss Post := by
  intro p l e s m args below meth c H locs ls ad h0 ad0 hC hR hS hl ho hq hE
  exact lv_ior hC.1 hC.2.1  d  (k p l e s m args below meth c H locs ls ad h0 ad0 hC hR hS hl (fac trivial (fat (fat ho))) hq hE)
theorem wp_ishl {x y : Int32} (d : decode (mCode M) pc = .ok (.ishl, 1))  (k : WP g M (pc + 1) lv (.int (x <<< (y &&& 31)) :: st) h cs ss Post) : WP g M pc lv (.int y :: .int x :: st) h cs ss Post := by
  intro p l e s m args below meth c H locs ls ad h0 ad0 hC hR hS hl ho hq hE
  exact lv_ishl hC.1 hC.2.1  d  (k p l e s m args below meth c H locs ls ad h0 ad0 hC hR hS hl (fac trivial (fat (fat ho))) hq hE)
theorem wp_ishr {x y : Int32} (d : decode (mCode M) pc = .ok (.ishr, 1))  (k : WP g M (pc + 1) lv (.int (x >>> (y &&& 31)) :: st) h cs ss Post) : WP g M pc lv (.int y :: .int x :: st) h cs ss Post := by
  intro p l e s m args below meth c H locs ls ad h0 ad0 hC hR hS hl ho hq hE
  exact lv_ishr hC.1 hC.2.1  d  (k p l e s m args below meth c H locs ls ad h0 ad0 hC hR hS hl (fac trivial (fat (fat ho))) hq hE)
theorem wp_ladd {x y : Int64} (d : decode (mCode M) pc = .ok (.ladd, 1))  (k : WP g M (pc + 1) lv (.long (x + y) :: st) h cs ss Post) : WP g M pc lv (.long y :: .long x :: st) h cs ss Post := by
  intro p l e s m args below meth c H locs ls ad h0 ad0 hC hR hS hl ho hq hE
  exact lv_ladd hC.1 hC.2.1  d  (k p l e s m args below meth c H locs ls ad h0 ad0 hC hR hS hl (fac trivial (fat (fat ho))) hq hE)
theorem wp_lsub {x y : Int64} (d : decode (mCode M) pc = .ok (.lsub, 1))  (k : WP g M (pc + 1) lv (.long (x - y) :: st) h cs ss Post) : WP g M pc lv (.long y :: .long x :: st) h cs ss Post := by
  intro p l e s m args below meth c H locs ls ad h0 ad0 hC hR hS hl ho hq hE
  exact lv_lsub hC.1 hC.2.1  d  (k p l e s m args below meth c H locs ls ad h0 ad0 hC hR hS hl (fac trivial (fat (fat ho))) hq hE)
theorem wp_lmul {x y : Int64} (d : decode (mCode M) pc = .ok (.lmul, 1))  (k : WP g M (pc + 1) lv (.long (x * y) :: st) h cs ss Post) : WP g M pc lv (.long y :: .long x :: st) h cs ss Post := by
  intro p l e s m args below meth c H locs ls ad h0 ad0 hC hR hS hl ho hq hE
  exact lv_lmul hC.1 hC.2.1  d  (k p l e s m args below meth c H locs ls ad h0 ad0 hC hR hS hl (fac trivial (fat (fat ho))) hq hE)
theorem wp_land {x y : Int64} (d : decode (mCode M) pc = .ok (.land, 1))  (k : WP g M (pc + 1) lv (.long (x &&& y) :: st) h cs ss Post) : WP g M pc lv (.long y :: .long x :: st) h cs ss Post := by
  intro p l e s m args below meth c H locs ls ad h0 ad0 hC hR hS hl ho hq hE
  exact lv_land hC.1 hC.2.1  d  (k p l e s m args below meth c H locs ls ad h0 ad0 hC hR hS hl (fac trivial (fat (fat ho))) hq hE)
theorem wp_lor {x y : Int64} (d : decode (mCode M) pc = .ok (.lor, 1))  (k : WP g M (pc + 1) lv (.long (x ||| y) :: st) h cs ss Post) : WP g M pc lv (.long y :: .long x :: st) h cs ss Post := by
  intro p l e s m args below meth c H locs ls ad h0 ad0 hC hR hS hl ho hq hE
  exact lv_lor hC.1 hC.2.1  d  (k p l e s m args below meth c H locs ls ad h0 ad0 hC hR hS hl (fac trivial (fat (fat ho))) hq hE)
theorem wp_lxor {x y : Int64} (d : decode (mCode M) pc = .ok (.lxor, 1))  (k : WP g M (pc + 1) lv (.long (x ^^^ y) :: st) h cs ss Post) : WP g M pc lv (.long y :: .long x :: st) h cs ss Post := by
  intro p l e s m args below meth c H locs ls ad h0 ad0 hC hR hS hl ho hq hE
  exact lv_lxor hC.1 hC.2.1  d  (k p l e s m args below meth c H locs ls ad h0 ad0 hC hR hS hl (fac trivial (fat (fat ho))) hq hE)
theorem wp_ldiv {x y : Int64} (d : decode (mCode M) pc = .ok (.ldiv, 1)) (hne : ¬ y = 0) (k : WP g M (pc + 1) lv (.long (x / y) :: st) h cs ss Post) : WP g M pc lv (.long y :: .long x :: st) h cs ss Post := by
  intro p l e s m args below meth c H locs ls ad h0 ad0 hC hR hS hl ho hq hE
  exact lv_ldiv hC.1 hC.2.1  d hne (k p l e s m args below meth c H locs ls ad h0 ad0 hC hR hS hl (fac trivial (fat (fat ho))) hq hE)
theorem wp_lrem {x y : Int64} (d : decode (mCode M) pc = .ok (.lrem, 1)) (hne : ¬ y = 0) (k : WP g M (pc + 1) lv (.long (x - x / y * y) :: st) h cs ss Post) : WP g M pc lv (.long y :: .long x :: st) h cs ss Post := by
  intro p l e s m args below meth c H locs ls ad h0 ad0 hC hR hS hl ho hq hE
  exact lv_lrem hC.1 hC.2.1  d hne (k p l e s m args below meth c H locs ls ad h0 ad0 hC hR hS hl (fac trivial (fat (fat ho))) hq hE)
theorem wp_lneg {x : Int64} (d : decode (mCode M) pc = .ok (.lneg, 1))  (k : WP g M (pc + 1) lv (.long (-x) :: st) h cs ss Post) : WP g M pc lv (.long x :: st) h cs ss Post := by
  intro p l e s m args below meth c H locs ls ad h0 ad0 hC hR hS hl ho hq hE
  exact lv_lneg hC.1 hC.2.1  d  (k p l e s m args below meth c H locs ls ad h0 ad0 hC hR hS hl (fac trivial (fat ho)) hq hE)
theorem wp_lshl {x v : Int64} {y : Int32} (d : decode (mCode M) pc = .ok (.lshl, 1)) (hv : x <<< (y.toInt64 &&& 63) = v) (k : WP g M (pc + 1) lv (.long v :: st) h cs ss Post) : WP g M pc lv (.int y :: .long x :: st) h cs ss Post := by
  intro p l e s m args below meth c H locs ls ad h0 ad0 hC hR hS hl ho hq hE
  exact lv_lshl hC.1 hC.2.1  d hv (k p l e s m args below meth c H locs ls ad h0 ad0 hC hR hS hl (fac trivial (fat (fat ho))) hq hE)
theorem wp_lshr {x v : Int64} {y : Int32} (d : decode (mCode M) pc = .ok (.lshr, 1)) (hv : x >>> (y.toInt64 &&& 63) = v) (k : WP g M (pc + 1) lv (.long v :: st) h cs ss Post) : WP g M pc lv (.int y :: .long x :: st) h cs ss Post := by
  intro p l e s m args below meth c H locs ls ad h0 ad0 hC hR hS hl ho hq hE
  exact lv_lshr hC.1 hC.2.1  d hv (k p l e s m args below meth c H locs ls ad h0 ad0 hC hR hS hl (fac trivial (fat (fat ho))) hq hE)
theorem wp_i2l {x : Int32} (d : decode (mCode M) pc = .ok (.i2l, 1))  (k : WP g M (pc + 1) lv (.long x.toInt64 :: st) h cs ss Post) : WP g M pc lv (.int x :: st) h cs ss Post := by
  intro p l e s m args below meth c H locs ls ad h0 ad0 hC hR hS hl ho hq hE
  exact lv_i2l hC.1 hC.2.1  d rfl (k p l e s m args below meth c H locs ls ad h0 ad0 hC hR hS hl (fac trivial (fat ho)) hq hE)
theorem wp_lcmp {x y : Int64} (d : decode (mCode M) pc = .ok (.lcmp, 1))  (k : WP g M (pc + 1) lv (.int (lg_cmp x y) :: st) h cs ss Post) : WP g M pc lv (.long y :: .long x :: st) h cs ss Post := by
  intro p l e s m args below meth c H locs ls ad h0 ad0 hC hR hS hl ho hq hE
  exact W.lcmp hC.1 hC.2.1  d  (k p l e s m args below meth c H locs ls ad h0 ad0 hC hR hS hl (fac trivial (fat (fat ho))) hq hE)
theorem wp_if_eq {x : Int32} {off : Int} {tgt : Nat} (d : decode (mCode M) pc = .ok (.ifCond .eq off, 3)) (ht : (pc : Int) + off = (tgt : Int)) (kt : (x = 0) → WP g M tgt lv st h cs ss Post) (kf : ¬ (x = 0) → WP g M (pc + 3) lv st h cs ss Post) : WP g M pc lv (.int x :: st) h cs ss Post := by
  intro p l e s m args below meth c H locs ls ad h0 ad0 hC hR hS hl ho hq hE
  exact lv_if_eq hC.1 hC.2.1 d ht (fun z => kt z p l e s m args below meth c H locs ls ad h0 ad0 hC hR hS hl (fat ho) hq hE) (fun z => kf z p l e s m args below meth c H locs ls ad h0 ad0 hC hR hS hl (fat ho) hq hE)
theorem wp_if_ne {x : Int32} {off : Int} {tgt : Nat} (d : decode (mCode M) pc = .ok (.ifCond .ne off, 3)) (ht : (pc : Int) + off = (tgt : Int)) (kt : (x ≠ 0) → WP g M tgt lv st h cs ss Post) (kf : x = 0 → WP g M (pc + 3) lv st h cs ss Post) : WP g M pc lv (.int x :: st) h cs ss Post := by
  intro p l e s m args below meth c H locs ls ad h0 ad0 hC hR hS hl ho hq hE
  exact lv_if_ne hC.1 hC.2.1 d ht (fun z => kt z p l e s m args below meth c H locs ls ad h0 ad0 hC hR hS hl (fat ho) hq hE) (fun z => kf z p l e s m args below meth c H locs ls ad h0 ad0 hC hR hS hl (fat ho) hq hE)
theorem wp_if_lt {x : Int32} {off : Int} {tgt : Nat} (d : decode (mCode M) pc = .ok (.ifCond .lt off, 3)) (ht : (pc : Int) + off = (tgt : Int)) (kt : (x < 0) → WP g M tgt lv st h cs ss Post) (kf : ¬ (x < 0) → WP g M (pc + 3) lv st h cs ss Post) : WP g M pc lv (.int x :: st) h cs ss Post := by
  intro p l e s m args below meth c H locs ls ad h0 ad0 hC hR hS hl ho hq hE
  exact lv_if_lt hC.1 hC.2.1 d ht (fun z => kt z p l e s m args below meth c H locs ls ad h0 ad0 hC hR hS hl (fat ho) hq hE) (fun z => kf z p l e s m args below meth c H locs ls ad h0 ad0 hC hR hS hl (fat ho) hq hE)
theorem wp_if_ge {x : Int32} {off : Int} {tgt : Nat} (d : decode (mCode M) pc = .ok (.ifCond .ge off, 3)) (ht : (pc : Int) + off = (tgt : Int)) (kt : (0 ≤ x) → WP g M tgt lv st h cs ss Post) (kf : ¬ (0 ≤ x) → WP g M (pc + 3) lv st h cs ss Post) : WP g M pc lv (.int x :: st) h cs ss Post := by
  intro p l e s m args below meth c H locs ls ad h0 ad0 hC hR hS hl ho hq hE
  exact lv_if_ge hC.1 hC.2.1 d ht (fun z => kt z p l e s m args below meth c H locs ls ad h0 ad0 hC hR hS hl (fat ho) hq hE) (fun z => kf z p l e s m args below meth c H locs ls ad h0 ad0 hC hR hS hl (fat ho) hq hE)
theorem wp_if_gt {x : Int32} {off : Int} {tgt : Nat} (d : decode (mCode M) pc = .ok (.ifCond .gt off, 3)) (ht : (pc : Int) + off = (tgt : Int)) (kt : (0 < x) → WP g M tgt lv st h cs ss Post) (kf : ¬ (0 < x) → WP g M (pc + 3) lv st h cs ss Post) : WP g M pc lv (.int x :: st) h cs ss Post := by
  intro p l e s m args below meth c H locs ls ad h0 ad0 hC hR hS hl ho hq hE
  exact lv_if_gt hC.1 hC.2.1 d ht (fun z => kt z p l e s m args below meth c H locs ls ad h0 ad0 hC hR hS hl (fat ho) hq hE) (fun z => kf z p l e s m args below meth c H locs ls ad h0 ad0 hC hR hS hl (fat ho) hq hE)
theorem wp_if_le {x : Int32} {off : Int} {tgt : Nat} (d : decode (mCode M) pc = .ok (.ifCond .le off, 3)) (ht : (pc : Int) + off = (tgt : Int)) (kt : (x ≤ 0) → WP g M tgt lv st h cs ss Post) (kf : ¬ (x ≤ 0) → WP g M (pc + 3) lv st h cs ss Post) : WP g M pc lv (.int x :: st) h cs ss Post := by
  intro p l e s m args below meth c H locs ls ad h0 ad0 hC hR hS hl ho hq hE
  exact lv_if_le hC.1 hC.2.1 d ht (fun z => kt z p l e s m args below meth c H locs ls ad h0 ad0 hC hR hS hl (fat ho) hq hE) (fun z => kf z p l e s m args below meth c H locs ls ad h0 ad0 hC hR hS hl (fat ho) hq hE)
theorem wp_icmp_eq {x y : Int32} {off : Int} {tgt : Nat} (d : decode (mCode M) pc = .ok (.if_icmp .eq off, 3)) (ht : (pc : Int) + off = (tgt : Int)) (kt : (x = y) → WP g M tgt lv st h cs ss Post) (kf : ¬ (x = y) → WP g M (pc + 3) lv st h cs ss Post) : WP g M pc lv (.int y :: .int x :: st) h cs ss Post := by
  intro p l e s m args below meth c H locs ls ad h0 ad0 hC hR hS hl ho hq hE
  exact lv_icmp_eq hC.1 hC.2.1 d ht (fun z => kt z p l e s m args below meth c H locs ls ad h0 ad0 hC hR hS hl (fat (fat ho)) hq hE) (fun z => kf z p l e s m args below meth c H locs ls ad h0 ad0 hC hR hS hl (fat (fat ho)) hq hE)
theorem wp_icmp_ne {x y : Int32} {off : Int} {tgt : Nat} (d : decode (mCode M) pc = .ok (.if_icmp .ne off, 3)) (ht : (pc : Int) + off = (tgt : Int)) (kt : (x ≠ y) → WP g M tgt lv st h cs ss Post) (kf : x = y → WP g M (pc + 3) lv st h cs ss Post) : WP g M pc lv (.int y :: .int x :: st) h cs ss Post := by
  intro p l e s m args below meth c H locs ls ad h0 ad0 hC hR hS hl ho hq hE
  exact lv_icmp_ne hC.1 hC.2.1 d ht (fun z => kt z p l e s m args below meth c H locs ls ad h0 ad0 hC hR hS hl (fat (fat ho)) hq hE) (fun z => kf z p l e s m args below meth c H locs ls ad h0 ad0 hC hR hS hl (fat (fat ho)) hq hE)
theorem wp_icmp_lt {x y : Int32} {off : Int} {tgt : Nat} (d : decode (mCode M) pc = .ok (.if_icmp .lt off, 3)) (ht : (pc : Int) + off = (tgt : Int)) (kt : (x < y) → WP g M tgt lv st h cs ss Post) (kf : ¬ (x < y) → WP g M (pc + 3) lv st h cs ss Post) : WP g M pc lv (.int y :: .int x :: st) h cs ss Post := by
  intro p l e s m args below meth c H locs ls ad h0 ad0 hC hR hS hl ho hq hE
  exact lv_icmp_lt hC.1 hC.2.1 d ht (fun z => kt z p l e s m args below meth c H locs ls ad h0 ad0 hC hR hS hl (fat (fat ho)) hq hE) (fun z => kf z p l e s m args below meth c H locs ls ad h0 ad0 hC hR hS hl (fat (fat ho)) hq hE)
theorem wp_icmp_ge {x y : Int32} {off : Int} {tgt : Nat} (d : decode (mCode M) pc = .ok (.if_icmp .ge off, 3)) (ht : (pc : Int) + off = (tgt : Int)) (kt : (y ≤ x) → WP g M tgt lv st h cs ss Post) (kf : ¬ (y ≤ x) → WP g M (pc + 3) lv st h cs ss Post) : WP g M pc lv (.int y :: .int x :: st) h cs ss Post := by
  intro p l e s m args below meth c H locs ls ad h0 ad0 hC hR hS hl ho hq hE
  exact lv_icmp_ge hC.1 hC.2.1 d ht (fun z => kt z p l e s m args below meth c H locs ls ad h0 ad0 hC hR hS hl (fat (fat ho)) hq hE) (fun z => kf z p l e s m args below meth c H locs ls ad h0 ad0 hC hR hS hl (fat (fat ho)) hq hE)
theorem wp_icmp_gt {x y : Int32} {off : Int} {tgt : Nat} (d : decode (mCode M) pc = .ok (.if_icmp .gt off, 3)) (ht : (pc : Int) + off = (tgt : Int)) (kt : (y < x) → WP g M tgt lv st h cs ss Post) (kf : ¬ (y < x) → WP g M (pc + 3) lv st h cs ss Post) : WP g M pc lv (.int y :: .int x :: st) h cs ss Post := by
  intro p l e s m args below meth c H locs ls ad h0 ad0 hC hR hS hl ho hq hE
  exact lv_icmp_gt hC.1 hC.2.1 d ht (fun z => kt z p l e s m args below meth c H locs ls ad h0 ad0 hC hR hS hl (fat (fat ho)) hq hE) (fun z => kf z p l e s m args below meth c H locs ls ad h0 ad0 hC hR hS hl (fat (fat ho)) hq hE)
theorem wp_icmp_le {x y : Int32} {off : Int} {tgt : Nat} (d : decode (mCode M) pc = .ok (.if_icmp .le off, 3)) (ht : (pc : Int) + off = (tgt : Int)) (kt : (x ≤ y) → WP g M tgt lv st h cs ss Post) (kf : ¬ (x ≤ y) → WP g M (pc + 3) lv st h cs ss Post) : WP g M pc lv (.int y :: .int x :: st) h cs ss Post := by
  intro p l e s m args below meth c H locs ls ad h0 ad0 hC hR hS hl ho hq hE
  exact lv_icmp_le hC.1 hC.2.1 d ht (fun z => kt z p l e s m args below meth c H locs ls ad h0 ad0 hC hR hS hl (fat (fat ho)) hq hE) (fun z => kf z p l e s m args below meth c H locs ls ad h0 ad0 hC hR hS hl (fat (fat ho)) hq hE)
theorem wp_goto {off : Int} {tgt : Nat} (d : decode (mCode M) pc = .ok (.goto off, 3)) (ht : (pc : Int) + off = (tgt : Int)) (k : WP g M tgt lv st h cs ss Post) : WP g M pc lv st h cs ss Post := by
  intro p l e s m args below meth c H locs ls ad h0 ad0 hC hR hS hl ho hq hE
  exact lv_goto hC.1 hC.2.1 d ht (k p l e s m args below meth c H locs ls ad h0 ad0 hC hR hS hl ho hq hE)
theorem wp_ifnonnull {x : Nat} {off : Int} {tgt : Nat} (d : decode (mCode M) pc = .ok (.ifnonnull off, 3)) (ht : (pc : Int) + off = (tgt : Int)) (k : WP g M tgt lv st h cs ss Post) : WP g M pc lv (.ref x :: st) h cs ss Post := by
  intro p l e s m args below meth c H locs ls ad h0 ad0 hC hR hS hl ho hq hE
  exact lv_ifnonnull hC.1 hC.2.1 d ht (k p l e s m args below meth c H locs ls ad h0 ad0 hC hR hS hl (fat ho) hq hE)
theorem wp_ifnonnullN {off : Int} (d : decode (mCode M) pc = .ok (.ifnonnull off, 3)) (k : WP g M (pc + 3) lv st h cs ss Post) : WP g M pc lv (.null :: st) h cs ss Post := by
  intro p l e s m args below meth c H locs ls ad h0 ad0 hC hR hS hl ho hq hE
  exact lv_ifnonnullN hC.1 hC.2.1 d (k p l e s m args below meth c H locs ls ad h0 ad0 hC hR hS hl (fat ho) hq hE)
theorem wp_ifnull {x : Nat} {off : Int} (d : decode (mCode M) pc = .ok (.ifnull off, 3)) (k : WP g M (pc + 3) lv st h cs ss Post) : WP g M pc lv (.ref x :: st) h cs ss Post := by
  intro p l e s m args below meth c H locs ls ad h0 ad0 hC hR hS hl ho hq hE
  exact lv_ifnull hC.1 hC.2.1 d (k p l e s m args below meth c H locs ls ad h0 ad0 hC hR hS hl (fat ho) hq hE)
theorem wp_ifnullN {off : Int} {tgt : Nat} (d : decode (mCode M) pc = .ok (.ifnull off, 3)) (ht : (pc : Int) + off = (tgt : Int)) (k : WP g M tgt lv st h cs ss Post) : WP g M pc lv (.null :: st) h cs ss Post := by
  intro p l e s m args below meth c H locs ls ad h0 ad0 hC hR hS hl ho hq hE
  exact lv_ifnullN hC.1 hC.2.1 d ht (k p l e s m args below meth c H locs ls ad h0 ad0 hC hR hS hl (fat ho) hq hE)
theorem wp_tableIn {dflt lo hi : Int} {offs : Array Int} {len : Nat} {x : Int32} {off : Int} {tgt : Nat} (d : decode (mCode M) pc = .ok (.tableswitch dflt lo hi offs, len)) (h1 : ¬ x.toInt < lo) (h2 : ¬ hi < x.toInt) (hf : offs[(x.toInt - lo).toNat]? = some off) (ht : (pc : Int) + off = (tgt : Int)) (k : WP g M tgt lv st h cs ss Post) : WP g M pc lv (.int x :: st) h cs ss Post := by
  intro p l e s m args below meth c H locs ls ad h0 ad0 hC hR hS hl ho hq hE
  exact lv_tableIn hC.1 hC.2.1 d h1 h2 hf ht (k p l e s m args below meth c H locs ls ad h0 ad0 hC hR hS hl (fat ho) hq hE)
theorem wp_tableOut {dflt lo hi : Int} {offs : Array Int} {len : Nat} {x : Int32} {tgt : Nat} (d : decode (mCode M) pc = .ok (.tableswitch dflt lo hi offs, len)) (h1 : x.toInt < lo ∨ hi < x.toInt) (ht : (pc : Int) + dflt = (tgt : Int)) (k : WP g M tgt lv st h cs ss Post) : WP g M pc lv (.int x :: st) h cs ss Post := by
  intro p l e s m args below meth c H locs ls ad h0 ad0 hC hR hS hl ho hq hE
  exact lv_tableOut hC.1 hC.2.1 d h1 ht (k p l e s m args below meth c H locs ls ad h0 ad0 hC hR hS hl (fat ho) hq hE)
theorem wp_lookup {dflt : Int} {ps : Array (Int × Int)} {len : Nat} {x : Int32} {off : Int} {tgt : Nat} (d : decode (mCode M) pc = .ok (.lookupswitch dflt ps, len)) (hp : (ps.toList.zip (ps.toList.drop 1)).all (fun (a, next) => a.1 < next.1) = true) (hf : Op.lookupswitch.offset ps.toList dflt x.toInt = off) (ht : (pc : Int) + off = (tgt : Int)) (k : WP g M tgt lv st h cs ss Post) : WP g M pc lv (.int x :: st) h cs ss Post := by
  intro p l e s m args below meth c H locs ls ad h0 ad0 hC hR hS hl ho hq hE
  exact lv_lookup hC.1 hC.2.1 d hp hf ht (k p l e s m args below meth c H locs ls ad h0 ad0 hC hR hS hl (fat ho) hq hE)
theorem wp_sub (ks : List Nat) {lv' : List (Nat × Value)} (hlv : lv_pick lv ks = lv') (k : WP g M pc lv' st h cs ss Post) : WP g M pc lv st h cs ss Post := by
  intro p l e s m args below meth c H locs ls ad h0 ad0 hC hR hS hl ho hq hE
  have e2 : ∀ ks : List Nat, lv_pick (lv.map (rq ad)) ks = (lv_pick lv ks).map (rq ad) := by
    intro ks
    unfold lv_pick
    induction ks with
    | nil => rfl
    | cons a t ih =>
      rw [List.filterMap_cons, List.filterMap_cons, List.getElem?_map]
      cases lv[a]? with
      | none => exact ih
      | some q => exact congrArg _ ih
  refine k p l e s m args below meth c H locs ls ad h0 ad0 hC hR hS (lv_sub hl ks ((e2 ks).trans (congrArg _ hlv))) ho (fun q hq' => ?_) hE
  rw [← hlv] at hq'
  obtain ⟨i, -, hi⟩ := List.mem_filterMap.mp hq'
  exact hq q (List.mem_of_getElem? hi)
theorem wp_widen {cs' ss' : Nat} (h1 : cs ≤ cs') (h2 : ss ≤ ss') (k : WP g M pc lv st h cs' ss' Post) : WP g M pc lv st h cs ss Post := by
  intro p l e s m args below meth c H locs ls ad h0 ad0 hC hR hS hl ho hq hE
  exact W.widen h1 h2 (k p l e s m args below meth c H locs ls ad h0 ad0 hC hR hS hl ho hq hE)
theorem wp_post {Post' : Option Value → HP → Prop} (hp : ∀ v h', Post' v h' → Post v h') (k : WP g M pc lv st h cs ss Post') : WP g M pc lv st h cs ss Post := by
  intro p l e s m args below meth c H locs ls ad h0 ad0 hC hR hS hl ho hq hE
  intro T hT X
  obtain ⟨t, a, o, b1, b2, ⟨v, h', ad', c1, c2, c3⟩, b4⟩ := k p l e s m args below meth c H locs ls ad h0 ad0 hC hR hS hl ho hq hE T hT X
  exact ⟨t, a, o, b1, b2, ⟨v, h', ad', c1, hp v h' c2, c3⟩, b4⟩
theorem wp_lret {x : Int64} (d : decode (mCode M) pc = .ok (.lreturn, 1)) (hr : mRet M = some .long) (hc : cs ≤ (mRm M).cells) (hs : ss ≤ (mRm M).slots)  (hp : Post (some (.long x)) h) : WP g M pc lv (.long x :: []) h cs ss Post := by
  intro p l e s m args below meth c H locs ls ad h0 ad0 hC hR hS hl ho hq hE
  refine W.widen hc hs ?_
  exact W.lret hC.1 hC.2.1 (hC.2.2.1.trans hr) (fun t ht hW => ⟨(some (.long x)), h, ad, rfl, hp, by rw [ht]; exact hR, hE, (fun w hw => by cases hw; exact trivial), hS.F ht⟩) hS.2.2 d hC.2.2.2.2.2.2.1
theorem wp_iret {x : Int32} (d : decode (mCode M) pc = .ok (.ireturn, 1)) (hr : mRet M = some .int) (hc : cs ≤ (mRm M).cells) (hs : ss ≤ (mRm M).slots)  (hp : Post (some (.int x)) h) : WP g M pc lv (.int x :: []) h cs ss Post := by
  intro p l e s m args below meth c H locs ls ad h0 ad0 hC hR hS hl ho hq hE
  refine W.widen hc hs ?_
  exact W.iret hC.1 hC.2.1 (hC.2.2.1.trans hr) (fun t ht hW => ⟨(some (.int x)), h, ad, rfl, hp, by rw [ht]; exact hR, hE, (fun w hw => by cases hw; exact trivial), hS.F ht⟩) hS.2.2 d hC.2.2.2.2.2.2.1
theorem wp_zret {x : Int32} (d : decode (mCode M) pc = .ok (.ireturn, 1)) (hr : mRet M = some .boolean) (hc : cs ≤ (mRm M).cells) (hs : ss ≤ (mRm M).slots) (hn : narrow .boolean (.int x) = .int x) (hp : Post (some (.int x)) h) : WP g M pc lv (.int x :: []) h cs ss Post := by
  intro p l e s m args below meth c H locs ls ad h0 ad0 hC hR hS hl ho hq hE
  refine W.widen hc hs ?_
  exact W.zret hC.1 hC.2.1 (hC.2.2.1.trans hr) hn (fun t ht hW => ⟨(some (.int x)), h, ad, rfl, hp, by rw [ht]; exact hR, hE, (fun w hw => by cases hw; exact trivial), hS.F ht⟩) hS.2.2 d hC.2.2.2.2.2.2.1
theorem wp_vret (d : decode (mCode M) pc = .ok (.return_, 1)) (hr : mRet M = none) (hc : cs ≤ (mRm M).cells) (hs : ss ≤ (mRm M).slots)  (hp : Post none h) : WP g M pc lv ([]) h cs ss Post := by
  intro p l e s m args below meth c H locs ls ad h0 ad0 hC hR hS hl ho hq hE
  refine W.widen hc hs ?_
  exact W.vret hC.1 hC.2.1 (hC.2.2.1.trans hr) (fun t ht hW => ⟨none, h, ad, rfl, hp, by rw [ht]; exact hR, hE, (fun w hw => by cases hw), hS.F ht⟩) hS.2.2 d hC.2.2.2.2.2.2.1
theorem wp_aret {x : Nat} {C : String} (d : decode (mCode M) pc = .ok (.areturn, 1)) (hr : mRet M = some (.object C)) (hc : cs ≤ (mRm M).cells) (hs : ss ≤ (mRm M).slots)  (hp : Post (some (.ref x)) h) : WP g M pc lv (.ref x :: []) h cs ss Post := by
  intro p l e s m args below meth c H locs ls ad h0 ad0 hC hR hS hl ho hq hE
  refine W.widen hc hs ?_
  exact W.aret hC.1 hC.2.1 (hC.2.2.1.trans hr) (Or.inl ⟨_, rfl⟩) (Or.inr ⟨_, rfl⟩) (fun t ht hW => ⟨(some (.ref x)), h, ad, rfl, hp, by rw [ht]; exact hR, hE, (fun w hw => by cases hw; exact fa1 ho), hS.F ht⟩) hS.2.2 d hC.2.2.2.2.2.2.1
theorem wp_aretN {C : String} (d : decode (mCode M) pc = .ok (.areturn, 1)) (hr : mRet M = some (.object C)) (hc : cs ≤ (mRm M).cells) (hs : ss ≤ (mRm M).slots)  (hp : Post (some .null) h) : WP g M pc lv (.null :: []) h cs ss Post := by
  intro p l e s m args below meth c H locs ls ad h0 ad0 hC hR hS hl ho hq hE
  refine W.widen hc hs ?_
  exact W.aret hC.1 hC.2.1 (hC.2.2.1.trans hr) (Or.inl ⟨_, rfl⟩) (Or.inl rfl) (fun t ht hW => ⟨(some .null), h, ad, rfl, hp, by rw [ht]; exact hR, hE, (fun w hw => by cases hw; exact trivial), hS.F ht⟩) hS.2.2 d hC.2.2.2.2.2.2.1
end Basics
end
section
theorem lt8 {P : Nat → Prop} (h0 : P 0) (h1 : P 1) (h2 : P 2) (h3 : P 3) (h4 : P 4) (h5 : P 5) (h6 : P 6) (h7 : P 7) {c : Nat} (hc : c < 8) : P c := by
  match c, hc with
  | 0, _ => exact h0
  | 1, _ => exact h1
  | 2, _ => exact h2
  | 3, _ => exact h3
  | 4, _ => exact h4
  | 5, _ => exact h5
  | 6, _ => exact h6
  | 7, _ => exact h7
  | n + 8, h => exact absurd h (by omega)
theorem cl_at {c : Nat} (hc : c < 8) : vwCl[c]? = some (CN c, TT c, NF c) := lt8 (P := fun c => vwCl[c]? = some (CN c, TT c, NF c)) rfl rfl rfl rfl rfl rfl rfl rfl hc
theorem cl_in {c : Nat} (hc : c < 8) : ∀ w ∈ u_ws (CN c) (TT c) (NF c), w ∈ gw := by
  have k : ∀ w ∈ u_ws (CN c) (TT c) (NF c), w ∈ lw_tbl ∧ goodWord w = true := by
    refine lt8 (P := fun c => ∀ w ∈ u_ws (CN c) (TT c) (NF c), w ∈ lw_tbl ∧ goodWord w = true) ?_ ?_ ?_ ?_ ?_ ?_ ?_ ?_ hc <;> decide +kernel
  exact fun w hw => gw_of (k w hw).1 (k w hw).2
theorem cl_ty {c : Nat} (hc : c < 8) : ∀ k, k < NF c → parseFieldDescriptor (TT c k).2.2.1 = some (FT c k) := lt8 (P := fun c => ∀ k, k < NF c → parseFieldDescriptor (TT c k).2.2.1 = some (FT c k)) tyX0_ok tyX1_ok tyX2_ok tyX3_ok tyX4_ok tyX5_ok tyX6_ok tyX7_ok hc
theorem cl_nm {c : Nat} (hc : c < 8) : ∀ a, a < NF c → ∀ b, b < NF c → a ≠ b → (TT c a).2.1 ≠ (TT c b).2.1 := lt8 (P := fun c => ∀ a, a < NF c → ∀ b, b < NF c → a ≠ b → (TT c a).2.1 ≠ (TT c b).2.1) nmX0 nmX1 nmX2 nmX3 nmX4 nmX5 nmX6 nmX7 hc
/-- a field's link: of the class own, pool entry i, the field k of class c -/
def fLk (own : String) (i c k : Nat) : Prop := c < 8 ∧ k < NF c ∧ Cond.fieldLink own i (TT c k).1 (TT c k).2.1 (TT c k).2.2.1 ∈ lw_tbl
def isI (t : FieldType) : Bool := match t with
  | .int => true
  | .boolean => true
  | _ => false
def isP (t : FieldType) : Bool := match t with
  | .object _ => true
  | .array _ => true
  | _ => false
section HeapRows
variable {g : GG} {M : MD} {pc : Nat} {lv : List (Nat × Value)} {st : List Value} {h : HP} {cs ss : Nat} {Post : Option Value → HP → Prop}
theorem cE_obj {ad : Nat → Nat} {a c : Nat} {H : Heap} (hk : kd a = c) (hc : c < 8) (hE : cE g h ad a H) : t_OB (ad a) (g.2.1.1 c) (NF c) (g.2.1.2 c) H (fun k => fv ad (FT c k) (vI h a k) (vL h a k) (vP h a k)) := by
  subst hk
  unfold cE at hE
  rw [if_pos hc] at hE
  exact hE
theorem cE_arr {ad : Nat → Nat} {a c : Nat} {H : Heap} (hk : kd a = c) (hc : ¬ c < 8) (hE : cE g h ad a H) : H[ad a]? = some (vp_cell (g.2.2 c) (ln a, aF c (vI h a) (vL h a) (fun k => (vP h a k).map ad))) := by
  subst hk
  unfold cE at hE
  rw [if_neg hc] at hE
  exact hE
theorem wp_get {a i c k : Nat} (v : Value) (d : decode (mCode M) pc = .ok (.getfield i, 3)) (fl : fLk (mOwn M) i c k) (hl : liv h a = true) (hk : kd a = c) (hv : ∀ ad, fv ad (FT c k) (vI h a k) (vL h a k) (vP h a k) = rn ad v) (hok : ∀ ad H, Rp g h ad H → rok h v) (kk : WP g M (pc + 3) lv (v :: st) h cs ss Post) : WP g M pc lv (.ref a :: st) h cs ss Post := by
  intro p l e s m args below meth c0 H locs ls ad h0 ad0 hC hR hS hl' ho hq hE
  obtain ⟨hc, hkN, hw⟩ := fl
  obtain ⟨hx, hb, hr, hml, hown, hts, hlk, hnm, hX, hK, hN, hA, hB⟩ := id hC
  obtain ⟨cell, q1, q2, q3, q4⟩ := cE_obj hk hc (hR.1 a hl).2
  obtain ⟨hSl, hfc, kC, hkC, hkind⟩ := hK.1 c _ (cl_at hc)
  obtain ⟨cf, kf, fi, f, hi, hsl⟩ := hSl k hkN
  refine W.getf hx hb hown (hts _ (gw_of hw rfl)) hi (u_facts hfc hkC (u_lays hts (cl_in hc) hkN) hi).1 q1 (by rw [q3]; exact fun h => by cases h) (v := rn ad v) ?_ rfl rfl d (kk p l e s m args below meth c0 H locs ls ad h0 ad0 hC hR hS hl' (fac (hok ad H hR) (fat ho)) hq hE)
  rw [hsl, q4 k hkN]
  exact congrArg some (hv ad)
theorem wp_getI {a i c k : Nat} (d : decode (mCode M) pc = .ok (.getfield i, 3)) (fl : fLk (mOwn M) i c k) (ht : isI (FT c k) = true) (hk : kd a = c) (hl : liv h a = true) (kk : WP g M (pc + 3) lv (.int (vI h a k) :: st) h cs ss Post) : WP g M pc lv (.ref a :: st) h cs ss Post := by
  refine wp_get (.int (vI h a k)) d fl hl hk (fun ad => ?_) (fun _ _ _ => trivial) kk
  cases hf : FT c k <;> rw [hf] at ht <;> first | rfl | cases ht
theorem wp_getL {a i c k : Nat} (d : decode (mCode M) pc = .ok (.getfield i, 3)) (fl : fLk (mOwn M) i c k) (ht : FT c k = .long) (hk : kd a = c) (hl : liv h a = true) (kk : WP g M (pc + 3) lv (.long (vL h a k) :: st) h cs ss Post) : WP g M pc lv (.ref a :: st) h cs ss Post :=
  wp_get (.long (vL h a k)) d fl hl hk (fun ad => by rw [ht]; rfl) (fun _ _ _ => trivial) kk
theorem wp_getP {a i c k b : Nat} (d : decode (mCode M) pc = .ok (.getfield i, 3)) (fl : fLk (mOwn M) i c k) (ht : isP (FT c k) = true) (hk : kd a = c) (hl : liv h a = true) (hb : vP h a k = some b) (kk : WP g M (pc + 3) lv (.ref b :: st) h cs ss Post) : WP g M pc lv (.ref a :: st) h cs ss Post := by
  refine wp_get (.ref b) d fl hl hk (fun ad => ?_) (fun ad H hR => hR.2.2 a k b hl hb) kk
  rw [hb]
  cases hf : FT c k <;> rw [hf] at ht <;> first | rfl | cases ht
theorem wp_getPN {a i c k : Nat} (d : decode (mCode M) pc = .ok (.getfield i, 3)) (fl : fLk (mOwn M) i c k) (ht : isP (FT c k) = true) (hk : kd a = c) (hl : liv h a = true) (hb : vP h a k = none) (kk : WP g M (pc + 3) lv (.null :: st) h cs ss Post) : WP g M pc lv (.ref a :: st) h cs ss Post := by
  refine wp_get .null d fl hl hk (fun ad => ?_) (fun ad H hR => trivial) kk
  rw [hb]
  cases hf : FT c k <;> rw [hf] at ht <;> first | rfl | cases ht
/-- may the field be written here: it isn't final, or this is its constructor -/
def fin (M : MD) (c k : Nat) : Prop := (TT c k).2.2.2 = false ∨ ((TT c k).2.2.2 = true ∧ mNm M = "<init>" ∧ (TT c k).1 = mOwn M)
theorem wp_put {a i c k : Nat} {h' : HP} (v : Value) (d : decode (mCode M) pc = .ok (.putfield i, 3)) (fl : fLk (mOwn M) i c k) (hf : fin M c k) (hl : liv h a = true) (hk : kd a = c)
    (hn : ∀ ad, narrow (FT c k) (rn ad v) = rn ad v) (hfit : ∀ ad, fits (FT c k) (rn ad v) = true)
    (el : liv h' = liv h) (oI : ∀ b, b ≠ a → vI h' b = vI h b) (oL : ∀ b, b ≠ a → vL h' b = vL h b) (oP : ∀ b, b ≠ a → vP h' b = vP h b)
    (hp : ∀ ad H, Rp g h ad H → rok h v → ∀ k b, vP h' a k = some b → liv h b = true)
    (hv : ∀ ad, fv ad (FT c k) (vI h' a k) (vL h' a k) (vP h' a k) = rn ad v) (ho' : ∀ ad j, j ≠ k → fv ad (FT c j) (vI h' a j) (vL h' a j) (vP h' a j) = fv ad (FT c j) (vI h a j) (vL h a j) (vP h a j))
    (kk : WP g M (pc + 3) lv st h' cs ss Post) : WP g M pc lv (v :: .ref a :: st) h cs ss Post := by
  intro p l e s m args below meth c0 H locs ls ad h0 ad0 hC hR hS hl' ho hq hE
  obtain ⟨hc, hkN, hw⟩ := fl
  obtain ⟨hx, hb, hr, hml, hown, hts, hlk, hnm, hX, hK, hN, hA, hB⟩ := id hC
  have hap := va_apart (own := mOwn M) hts (cl_in hc) (FT c) (cl_ty hc) (cl_nm hc) hK (cl_at hc)
  obtain ⟨cell, q1, q2, q3, q4⟩ := cE_obj hk hc (hR.1 a hl).2
  obtain ⟨hSl, hfc, kC, hkC, hkind⟩ := hK.1 c _ (cl_at hc)
  obtain ⟨cf, kf, fi, f, hi, hsl⟩ := hSl k hkN
  have hst := (u_facts hfc hkC (u_lays hts (cl_in hc) hkN) hi).1
  have hlay := hts _ (cl_in hc _ (u_in_lay hkN))
  have rokE : ∀ w, rok h w → rok h' w := by
    intro w hw
    cases w <;> first | trivial | (show liv h' _ = true; rw [el]; exact hw)
  have fin1 : ∀ H' : Heap, H'[ad a]? = some (cell.setSlot f.slot (rn ad v)) → H'.size = H.size → (∀ q, q ≠ ad a → H'[q]? = H[q]?) → W p l e (mRm M) s m args below meth c0 H' (locs ++ [⟨ad a, f.slot⟩]) cs ss (MQ below (QQ g h0 ad0 Post) args s (mRm M).cells (mRm M).slots (BA g)) (F0 m (pc + 3) ls (st.map (rn ad))) := by
    intro H' e1 e2 e3
    rw [hsl] at e1
    have hcE : cE g h' ad a H' := by
      unfold cE
      rw [hk, if_pos hc]
      refine ⟨_, e1, q2, q3, fun j hj => ?_⟩
      rw [t_set q4 hap hkN (rn ad v) j hj]
      by_cases hjk : j = k
      · subst hjk
        simp only [updV, if_true]
        rw [hv ad]
      · simp only [updV, if_neg hjk]
        rw [ho' ad j hjk]
    exact kk p l e s m args below meth c0 H' _ ls ad h0 ad0 hC (Rp_put hR hl el oI oL oP (hp ad H hR (fa1 ho)) e3 hcE) (hS.put e2 e3 (hR.1 a hl).1) hl' (fun w hw => rokE w (fat (fat ho) w hw)) (fun q hq' => rokE _ (hq q hq')) (fun b hb => by rw [el]; exact hE b hb)
  rcases hf with hfin | ⟨hfin, hin2, hdecl⟩
  · unfold u_lay at hlay
    rw [if_neg (by rw [hfin]; decide)] at hlay
    have h6 := u_store hfc hkC hkind hlay hi (cl_ty hc k hkN) (hn ad) (hfit ad)
    exact W.putK hx hb (f := f) ⟨hown, hts _ (gw_of hw rfl), ⟨_, _, _, hi⟩, hst⟩ (by rw [q2]; exact h6) q1 q3 (by rw [hsl]; exact k2_hasslot (q4 k hkN)) rfl rfl d fin1
  · unfold u_lay at hlay
    rw [if_pos hfin] at hlay
    have hcf : m.cls = cf := by
      obtain ⟨_, _, c', _, _, _, -, -, hf', -, -, -, hown2, -⟩ := Cond.laysFinal_spec hlay
      have e1 : c' = cf := by have := hi.symm.trans hf'; simp at this; exact this.1.symm
      rw [hdecl] at hown2
      rw [← e1]; exact Option.some.inj (hown.symm.trans hown2)
    have h6 := u_fits hfc hkC hkind (Or.inr hlay) hi (cl_ty hc k hkN) (hn ad) (hfit ad)
    exact W.putFinK hx hb hown (hts _ (gw_of hw rfl)) hi hst hcf (hnm.trans hin2) (by rw [q2]; exact h6) q1 q3 (by rw [hsl]; exact k2_hasslot (q4 k hkN)) rfl rfl d fin1
theorem up2_ne {α : Type} {f : Nat → Nat → α} {a k b : Nat} {v : α} (hb : b ≠ a) : up2 f a k v b = f b := by funext j; simp [up2, hb]
theorem up2_eq {α : Type} {f : Nat → Nat → α} {a k : Nat} {v : α} : up2 f a k v a k = v := by simp [up2]
theorem up2_j {α : Type} {f : Nat → Nat → α} {a b k j : Nat} {v : α} (hj : j ≠ k) : up2 f a k v b j = f b j := by simp [up2, hj]
theorem wp_putI {a i c k : Nat} {x : Int32} (d : decode (mCode M) pc = .ok (.putfield i, 3)) (fl : fLk (mOwn M) i c k) (hf : fin M c k) (ht : isI (FT c k) = true) (hn : narrow (FT c k) (.int x) = .int x) (hfit : fits (FT c k) (.int x) = true) (hk : kd a = c) (hl : liv h a = true) (kk : WP g M (pc + 3) lv st (sI h a k x) cs ss Post) : WP g M pc lv (.int x :: .ref a :: st) h cs ss Post := by
  refine wp_put (h' := sI h a k x) (.int x) d fl hf hl hk (fun _ => hn) (fun _ => hfit) rfl (fun b hb => up2_ne hb) (fun b hb => rfl) (fun b hb => rfl) (fun ad H hR _ j b e => hR.2.2 a j b hl e) (fun ad => ?_) (fun ad j hj => ?_) kk
  · have e : vI (sI h a k x) a k = x := up2_eq
    rw [e]
    cases hft : FT c k <;> rw [hft] at ht <;> first | rfl | cases ht
  · have e : vI (sI h a k x) a j = vI h a j := up2_j hj
    rw [e]
    rfl
theorem wp_putL {a i c k : Nat} {x : Int64} (d : decode (mCode M) pc = .ok (.putfield i, 3)) (fl : fLk (mOwn M) i c k) (hf : fin M c k) (ht : FT c k = .long) (hk : kd a = c) (hl : liv h a = true) (kk : WP g M (pc + 3) lv st (sL h a k x) cs ss Post) : WP g M pc lv (.long x :: .ref a :: st) h cs ss Post := by
  refine wp_put (h' := sL h a k x) (.long x) d fl hf hl hk (fun _ => by rw [ht]; rfl) (fun _ => by rw [ht]; rfl) rfl (fun b hb => rfl) (fun b hb => up2_ne hb) (fun b hb => rfl) (fun ad H hR _ j b e => hR.2.2 a j b hl e) (fun ad => ?_) (fun ad j hj => ?_) kk
  · have e : vL (sL h a k x) a k = x := up2_eq
    rw [e, ht]
    rfl
  · have e : vL (sL h a k x) a j = vL h a j := up2_j hj
    rw [e]
    rfl
theorem wp_putP {a i c k b : Nat} (d : decode (mCode M) pc = .ok (.putfield i, 3)) (fl : fLk (mOwn M) i c k) (hf : fin M c k) (ht : isP (FT c k) = true) (hk : kd a = c) (hl : liv h a = true) (kk : WP g M (pc + 3) lv st (sP h a k (some b)) cs ss Post) : WP g M pc lv (.ref b :: .ref a :: st) h cs ss Post := by
  have e : vP (sP h a k (some b)) a k = some b := up2_eq
  refine wp_put (h' := sP h a k (some b)) (.ref b) d fl hf hl hk (fun ad => ?_) (fun ad => ?_) rfl (fun b hb => rfl) (fun b hb => rfl) (fun b hb => up2_ne hb) (fun ad H hR hok j q e2 => ?_) (fun ad => ?_) (fun ad j hj => ?_) kk
  · cases hft : FT c k <;> rw [hft] at ht <;> first | rfl | cases ht
  · cases hft : FT c k <;> rw [hft] at ht <;> first | rfl | cases ht
  · by_cases hj : j = k
    · subst hj
      rw [e] at e2
      cases e2
      exact hok
    · rw [show vP (sP h a k (some b)) a j = vP h a j from up2_j hj] at e2
      exact hR.2.2 a j q hl e2
  · rw [e]
    cases hft : FT c k <;> rw [hft] at ht <;> first | rfl | cases ht
  · rw [show vP (sP h a k (some b)) a j = vP h a j from up2_j hj]
    rfl
end HeapRows
end
section
section ArrRows
variable {g : GG} {M : MD} {pc : Nat} {lv : List (Nat × Value)} {st : List Value} {h : HP} {cs ss : Nat} {Post : Option Value → HP → Prop}
theorem one_P {D : va_G} {a : Nat} {e : va_E} {H : Heap} (h : va_at D vwCl (a, e) H) : va_P D vwCl [(a, e)] H := by
  intro k q hk
  match k, hk with
  | 0, hk => cases hk; exact h
  | k + 1, hk => simp at hk
theorem wp_iald {a : Nat} {i : Int32} (d : decode (mCode M) pc = .ok (.iaload, 1)) (hk : kd a = 8) (hl : liv h a = true) (hin : vp_in i (ln a)) (kk : WP g M (pc + 1) lv (.int (vI h a i.toNatClampNeg) :: st) h cs ss Post) : WP g M pc lv (.int i :: .ref a :: st) h cs ss Post := by
  intro p l e s m args below meth c0 H locs ls ad h0 ad0 hC hR hS hl' ho hq hE
  have hc := cE_arr hk (by decide) (hR.1 a hl).2
  exact va_iald (D := g.2.1) (cl := vwCl) (tys := tysOf g) (ws := [(ad a, .inl (g.2.2 8, ln a, .inl (vI h a)))]) hC.1 hC.2.1 hC.2.2.2.2.2.2.2.2.2.1 (one_P hc) 0 0 rfl rfl hin d (kk p l e s m args below meth c0 H locs ls ad h0 ad0 hC hR hS hl' (fac trivial (fat (fat ho))) hq hE)
theorem wp_bald {a : Nat} {i : Int32} (d : decode (mCode M) pc = .ok (.baload, 1)) (hk : kd a = 10) (hl : liv h a = true) (hin : vp_in i (ln a)) (kk : WP g M (pc + 1) lv (.int (vI h a i.toNatClampNeg) :: st) h cs ss Post) : WP g M pc lv (.int i :: .ref a :: st) h cs ss Post := by
  intro p l e s m args below meth c0 H locs ls ad h0 ad0 hC hR hS hl' ho hq hE
  have hc := cE_arr hk (by decide) (hR.1 a hl).2
  exact va_zald (D := g.2.1) (cl := vwCl) (tys := tysOf g) (ws := [(ad a, .inl (g.2.2 10, ln a, .inl (vI h a)))]) hC.1 hC.2.1 hC.2.2.2.2.2.2.2.2.2.1 (one_P hc) 0 2 rfl rfl hin d (kk p l e s m args below meth c0 H locs ls ad h0 ad0 hC hR hS hl' (fac trivial (fat (fat ho))) hq hE)
theorem wp_lald {a : Nat} {i : Int32} (d : decode (mCode M) pc = .ok (.laload, 1)) (hk : kd a = 9) (hl : liv h a = true) (hin : vp_in i (ln a)) (kk : WP g M (pc + 1) lv (.long (vL h a i.toNatClampNeg) :: st) h cs ss Post) : WP g M pc lv (.int i :: .ref a :: st) h cs ss Post := by
  intro p l e s m args below meth c0 H locs ls ad h0 ad0 hC hR hS hl' ho hq hE
  have hc := cE_arr hk (by decide) (hR.1 a hl).2
  exact va_lald (D := g.2.1) (cl := vwCl) (tys := tysOf g) (ws := [(ad a, .inl (g.2.2 9, ln a, .inr (.inl (vL h a))))]) hC.1 hC.2.1 hC.2.2.2.2.2.2.2.2.2.1 (one_P hc) 0 1 rfl rfl hin d (kk p l e s m args below meth c0 H locs ls ad h0 ad0 hC hR hS hl' (fac trivial (fat (fat ho))) hq hE)
/-- arrays of references: 11 to 14 -/
theorem aF_ref {t : Nat} (h1 : 10 < t) (I : Nat → Int32) (L : Nat → Int64) (P : Nat → Option Nat) : aF t I L P = .inr (.inr (.inr (.inr P))) := by
  unfold aF
  split <;> first | omega | rfl
theorem tys_ref {t : Nat} (h1 : 10 < t) (h2 : t < 15) : ∃ (C : String) (k : Nat), AT t = FieldType.object C ∧ (tysOf g)[k]? = some (g.2.2 t, FieldType.object C) := by
  match t, h1, h2 with
  | 11, _, _ => exact ⟨RX2, 3, rfl, rfl⟩
  | 12, _, _ => exact ⟨RX1, 4, rfl, rfl⟩
  | 13, _, _ => exact ⟨RX5, 5, rfl, rfl⟩
  | 14, _, _ => exact ⟨RX4, 6, rfl, rfl⟩
  | n + 15, _, h => exact absurd h (by omega)
theorem wp_aald {a t : Nat} {i : Int32} (v : Value) (d : decode (mCode M) pc = .ok (.aaload, 1)) (hk : kd a = t) (h1 : 10 < t) (h2 : t < 15) (hl : liv h a = true) (hin : vp_in i (ln a)) (hv : va_rf (vP h a i.toNatClampNeg) = v) (kk : WP g M (pc + 1) lv (v :: st) h cs ss Post) : WP g M pc lv (.int i :: .ref a :: st) h cs ss Post := by
  intro p l e s m args below meth c0 H locs ls ad h0 ad0 hC hR hS hl' ho hq hE
  have hc := cE_arr hk (by omega) (hR.1 a hl).2
  rw [aF_ref h1] at hc
  obtain ⟨C, k, -, ht⟩ := tys_ref (g := g) h1 h2
  refine va_aldq (D := g.2.1) (cl := vwCl) (tys := tysOf g) (ws := [(ad a, .inl (g.2.2 t, ln a, .inr (.inr (.inr (.inr (fun k => (vP h a k).map ad))))))]) hC.1 hC.2.1 hC.2.2.2.2.2.2.2.2.2.1 (one_P hc) 0 k rfl ht hin d ?_
  have hv2 : va_rf ((vP h a i.toNatClampNeg).map ad) = rn ad v := by
    rw [← hv]
    cases vP h a i.toNatClampNeg <;> rfl
  have hok : rok h v := by
    rw [← hv]
    cases hz : vP h a i.toNatClampNeg with
    | none => trivial
    | some b => exact hR.2.2 a _ b hl hz
  rw [hv2]
  exact kk p l e s m args below meth c0 H locs ls ad h0 ad0 hC hR hS hl' (fac hok (fat (fat ho))) hq hE
theorem wp_alen {a t : Nat} {n : Int32} (d : decode (mCode M) pc = .ok (.arraylength, 1)) (hk : kd a = t) (h1 : 7 < t) (h2 : t < 15) (hl : liv h a = true) (hn : Int32.ofNat (ln a) = n) (kk : WP g M (pc + 1) lv (.int n :: st) h cs ss Post) : WP g M pc lv (.ref a :: st) h cs ss Post := by
  intro p l e s m args below meth c0 H locs ls ad h0 ad0 hC hR hS hl' ho hq hE
  have hc := cE_arr hk (by omega) (hR.1 a hl).2
  have ht : (tysOf g)[t - 8]? = some (g.2.2 t, AT t) := by
    match t, h1, h2 with
    | 8, _, _ => rfl
    | 9, _, _ => rfl
    | 10, _, _ => rfl
    | 11, _, _ => rfl
    | 12, _, _ => rfl
    | 13, _, _ => rfl
    | 14, _, _ => rfl
    | n + 15, _, h => exact absurd h (by omega)
  exact va_alen (D := g.2.1) (cl := vwCl) (tys := tysOf g) (ws := [(ad a, .inl (g.2.2 t, ln a, aF t (vI h a) (vL h a) (fun k => (vP h a k).map ad)))]) hC.1 hC.2.1 hC.2.2.2.2.2.2.2.2.2.1 (one_P hc) 0 (t - 8) rfl ht hn d (kk p l e s m args below meth c0 H locs ls ad h0 ad0 hC hR hS hl' (fac trivial (fat ho)) hq hE)
/-- behind a store into an array -/
theorem wp_stored {a t : Nat} {h' : HP} {ls : Array Slot} {ad : Nat → Nat} {p : Program} {l : Launch} {e : Env} {s : State} {m : MethodId} {args : Array Value} {below : List Frame} {meth : Method} {c0 : Code} {H H' : Heap} {locs : List Loc} {h0 : HP} {ad0 : Nat → Nat} {i : Nat} {v : Value} {pc' : Nat} {st' : List Value}
    (hk : kd a = t) (ht : ¬ t < 8) (hl : liv h a = true) (hC : Cxt g M p s m args meth c0) (hR : Rp g h ad H) (hS : va_S (BA g) s.heap H locs) (hl' : lv_has ls (mLoc M) (lv.map (rq ad))) (ho : ∀ v ∈ st', rok h v) (hq : ∀ q ∈ lv, rok h q.2) (hE : Ext h0 ad0 h ad)
    (el : liv h' = liv h) (oI : ∀ b, b ≠ a → vI h' b = vI h b) (oL : ∀ b, b ≠ a → vL h' b = vL h b) (oP : ∀ b, b ≠ a → vP h' b = vP h b) (hp : ∀ k b, vP h' a k = some b → liv h b = true)
    (e1 : H'[ad a]? = some ((vp_cell (g.2.2 t) (ln a, aF t (vI h a) (vL h a) (fun k => (vP h a k).map ad))).setSlot i v)) (e2 : H'.size = H.size) (e3 : ∀ q, q ≠ ad a → H'[q]? = H[q]?)
    (e4 : (vp_cell (g.2.2 t) (ln a, aF t (vI h a) (vL h a) (fun k => (vP h a k).map ad))).setSlot i v = vp_cell (g.2.2 t) (ln a, aF t (vI h' a) (vL h' a) (fun k => (vP h' a k).map ad)))
    (kk : WP g M pc' lv st' h' cs ss Post) : W p l e (mRm M) s m args below meth c0 H' (locs ++ [⟨ad a, i⟩]) cs ss (MQ below (QQ g h0 ad0 Post) args s (mRm M).cells (mRm M).slots (BA g)) (F0 m pc' ls (st'.map (rn ad))) := by
  have rokE : ∀ w, rok h w → rok h' w := by
    intro w hw
    cases w <;> first | trivial | (show liv h' _ = true; rw [el]; exact hw)
  have hcE : cE g h' ad a H' := by
    unfold cE
    rw [hk, if_neg ht, e1, e4]
  exact kk p l e s m args below meth c0 H' _ ls ad h0 ad0 hC (Rp_put hR hl el oI oL oP hp e3 hcE) (hS.put e2 e3 (hR.1 a hl).1) hl' (fun w hw => rokE w (ho w hw)) (fun q hq' => rokE _ (hq q hq')) (fun b hb => by rw [el]; exact hE b hb)
theorem up2_row {α : Type} (f : Nat → Nat → α) (a k : Nat) (v : α) : up2 f a k v a = fun j => if j = k then v else f a j := by funext j; simp [up2]
theorem wp_iast {a : Nat} {i x : Int32} (d : decode (mCode M) pc = .ok (.iastore, 1)) (hk : kd a = 8) (hl : liv h a = true) (hin : vp_in i (ln a)) (kk : WP g M (pc + 1) lv st (sI h a i.toNatClampNeg x) cs ss Post) : WP g M pc lv (.int x :: .int i :: .ref a :: st) h cs ss Post := by
  intro p l e s m args below meth c0 H locs ls ad h0 ad0 hC hR hS hl' ho hq hE
  have hc := cE_arr hk (by decide) (hR.1 a hl).2
  have hK := hC.2.2.2.2.2.2.2.2.2.1
  refine W.iast hC.1 hC.2.1 hc ((hK.2 0 _ rfl).1 (ln a) (fun j => .int (vI h a j))) (fun q => by cases q) (by show ¬ (i < 0 ∨ (arrV _ _ _).slots.size ≤ _); rw [arrV_size]; exact hin) rfl rfl d fun H1 e1 z oq => ?_
  refine wp_stored hk (by decide) hl hC hR hS hl' (fat (fat (fat ho))) hq hE (h' := sI h a i.toNatClampNeg x) rfl (fun b hb => up2_ne hb) (fun b hb => rfl) (fun b hb => rfl) (fun k b e => hR.2.2 a k b hl e) e1 z oq ?_ kk
  show (vp_cell (g.2.2 8) (ln a, .inl (vI h a))).setSlot _ _ = vp_cell (g.2.2 8) (ln a, .inl (vI (sI h a i.toNatClampNeg x) a))
  rw [vp_cell_i, vp_cell_i, arrV_store]
  congr 1
  funext q
  show updV (fun j => Value.int (vI h a j)) _ _ q = .int (up2 h.2.1 a _ x a q)
  rw [up2_row]
  unfold updV
  dsimp only
  split <;> rfl
theorem wp_last {a : Nat} {i : Int32} {x : Int64} (d : decode (mCode M) pc = .ok (.lastore, 1)) (hk : kd a = 9) (hl : liv h a = true) (hin : vp_in i (ln a)) (kk : WP g M (pc + 1) lv st (sL h a i.toNatClampNeg x) cs ss Post) : WP g M pc lv (.long x :: .int i :: .ref a :: st) h cs ss Post := by
  intro p l e s m args below meth c0 H locs ls ad h0 ad0 hC hR hS hl' ho hq hE
  have hc := cE_arr hk (by decide) (hR.1 a hl).2
  have hK := hC.2.2.2.2.2.2.2.2.2.1
  refine W.last hC.1 hC.2.1 hc ((hK.2 1 _ rfl).1 (ln a) (fun j => .long (vL h a j))) (fun q => by cases q) (by show ¬ (i < 0 ∨ (arrV _ _ _).slots.size ≤ _); rw [arrV_size]; exact hin) rfl rfl d fun H1 e1 z oq => ?_
  refine wp_stored hk (by decide) hl hC hR hS hl' (fat (fat (fat ho))) hq hE (h' := sL h a i.toNatClampNeg x) rfl (fun b hb => rfl) (fun b hb => up2_ne hb) (fun b hb => rfl) (fun k b e => hR.2.2 a k b hl e) e1 z oq ?_ kk
  show (vp_cell (g.2.2 9) (ln a, .inr (.inl (vL h a)))).setSlot _ _ = vp_cell (g.2.2 9) (ln a, .inr (.inl (vL (sL h a i.toNatClampNeg x) a)))
  rw [vp_cell_l, vp_cell_l, arrV_store]
  congr 1
  funext q
  show updV (fun j => Value.long (vL h a j)) _ _ q = .long (up2 h.2.2.1 a _ x a q)
  rw [up2_row]
  unfold updV
  dsimp only
  split <;> rfl
theorem wp_bast {a : Nat} {i x : Int32} (d : decode (mCode M) pc = .ok (.bastore, 1)) (hk : kd a = 10) (hl : liv h a = true) (hin : vp_in i (ln a)) (hn : narrow .boolean (.int x) = .int x) (kk : WP g M (pc + 1) lv st (sI h a i.toNatClampNeg x) cs ss Post) : WP g M pc lv (.int x :: .int i :: .ref a :: st) h cs ss Post := by
  intro p l e s m args below meth c0 H locs ls ad h0 ad0 hC hR hS hl' ho hq hE
  have hc := cE_arr hk (by decide) (hR.1 a hl).2
  have hK := hC.2.2.2.2.2.2.2.2.2.1
  refine W.zast hC.1 hC.2.1 hc ((hK.2 2 _ rfl).1 (ln a) (fun j => .int (vI h a j))) (fun q => by cases q) (by show ¬ (i < 0 ∨ (arrV _ _ _).slots.size ≤ _); rw [arrV_size]; exact hin) rfl rfl d fun H1 e1 z oq => ?_
  rw [hn] at e1
  refine wp_stored hk (by decide) hl hC hR hS hl' (fat (fat (fat ho))) hq hE (h' := sI h a i.toNatClampNeg x) rfl (fun b hb => up2_ne hb) (fun b hb => rfl) (fun b hb => rfl) (fun k b e => hR.2.2 a k b hl e) e1 z oq ?_ kk
  show (vp_cell (g.2.2 10) (ln a, .inl (vI h a))).setSlot _ _ = vp_cell (g.2.2 10) (ln a, .inl (vI (sI h a i.toNatClampNeg x) a))
  rw [vp_cell_i, vp_cell_i, arrV_store]
  congr 1
  funext q
  show updV (fun j => Value.int (vI h a j)) _ _ q = .int (up2 h.2.1 a _ x a q)
  rw [up2_row]
  unfold updV
  dsimp only
  split <;> rfl
/-- the class of an array's elements -/
def eC (t : Nat) : Nat := match t with
  | 11 => 2
  | 12 => 1
  | 13 => 5
  | _ => 4
theorem wp_aast {a b t : Nat} {i : Int32} (d : decode (mCode M) pc = .ok (.aastore, 1)) (hk : kd a = t) (h1 : 10 < t) (h2 : t < 15) (hl : liv h a = true) (hin : vp_in i (ln a)) (hkb : kd b = eC t) (kk : WP g M (pc + 1) lv st (sP h a i.toNatClampNeg (some b)) cs ss Post) : WP g M pc lv (.ref b :: .int i :: .ref a :: st) h cs ss Post := by
  intro p l e s m args below meth c0 H locs ls ad h0 ad0 hC hR hS hl' ho hq hE
  have hlb : liv h b = true := fa1 ho
  have hc := cE_arr hk (by omega) (hR.1 a hl).2
  have hK := hC.2.2.2.2.2.2.2.2.2.1
  have hlt : i.toNatClampNeg < ln a := Nat.not_le.mp fun q => hin (Or.inr q)
  have h0i : ¬ i < 0 := fun q => hin (Or.inl q)
  have hec : eC t < 8 := by unfold eC; split <;> decide
  obtain ⟨C, kt, hAT, ht⟩ := tys_ref (g := g) h1 h2
  have hCN : C = CN (eC t) := by
    match t, h1, h2, hAT with
    | 11, _, _, q => cases q; rfl
    | 12, _, _, q => cases q; rfl
    | 13, _, _, q => cases q; rfl
    | 14, _, _, q => cases q; rfl
    | n + 15, _, h, _ => exact absurd h (by omega)
  obtain ⟨cellV, g1, g2, g3, -⟩ := cE_obj hkb hec (hR.1 b hlb).2
  have hcls := (hK.1 (eC t) _ (cl_at hec)).2
  obtain ⟨kA, comp, k1, k2, k3, -⟩ := (hK.2 kt _ ht).2
  rw [hCN] at k3
  have hcomp : comp = g.2.1.1 (eC t) := Option.some.inj (k3.symm.trans hcls.1)
  subst hcomp
  obtain ⟨kC, hkC, -⟩ := id hcls.2
  rw [aF_ref h1] at hc
  refine W.aast hC.1 hC.2.1 hc (fun q h => by cases h) (fun h => by cases h) k1 k2 rfl hkC ⟨h0i, by show _ < (arrV _ _ _).slots.size; rw [arrV_size]; exact hlt⟩ g1 (fun q h => by rw [g3] at h; cases h) (by rw [g2]; exact hkC) (by rw [g2]; exact va_assign hcls) rfl rfl d fun H1 e1 z oq => ?_
  rw [← aF_ref h1 (vI h a) (vL h a)] at e1
  refine wp_stored hk (by omega) hl hC hR hS hl' (fat (fat (fat ho))) hq hE (h' := sP h a i.toNatClampNeg (some b)) rfl (fun b hb => rfl) (fun b hb => rfl) (fun b hb => up2_ne hb) (fun k q e => ?_) e1 z oq ?_ kk
  · have e' : up2 h.2.2.2 a i.toNatClampNeg (some b) a k = some q := e
    rw [up2_row] at e'
    dsimp only at e'
    split at e'
    · cases e'; exact hlb
    · exact hR.2.2 a k q hl e'
  · rw [aF_ref h1, aF_ref h1]
    rw [vp_cell_q, vp_cell_q, arrV_store]
    congr 1
    funext q
    show updV (fun j => va_rf ((vP h a j).map ad)) _ _ q = va_rf ((up2 h.2.2.2 a _ (some b) a q).map ad)
    rw [up2_row]
    unfold updV
    dsimp only
    split <;> rfl
end ArrRows
end
section
section Alloc
variable {g : GG} {M : MD} {pc : Nat} {lv : List (Nat × Value)} {st : List Value} {h : HP} {cs ss : Nat} {Post : Option Value → HP → Prop}
theorem rn_congr {ad ad' : Nat → Nat} {v : Value} (hv : rok h v) (he : ∀ b, liv h b = true → ad' b = ad b) : rn ad' v = rn ad v := by
  cases v <;> first | rfl | (show Value.ref (ad' _) = Value.ref (ad _); rw [he _ hv])
theorem map_rn {ad ad' : Nat → Nat} (he : ∀ b, liv h b = true → ad' b = ad b) (hs : ∀ v ∈ st, rok h v) : st.map (rn ad') = st.map (rn ad) := List.map_congr_left fun v hv => rn_congr (hs v hv) he
theorem map_rq {ad ad' : Nat → Nat} (he : ∀ b, liv h b = true → ad' b = ad b) (hs : ∀ q ∈ lv, rok h q.2) : lv.map (rq ad') = lv.map (rq ad) := List.map_congr_left fun q hq => by
  show (q.1, rn ad' q.2) = (q.1, rn ad q.2)
  rw [rn_congr (hs q hq) he]
theorem rok_mono {h' : HP} (he : ∀ b, liv h b = true → liv h' b = true) {v : Value} (hv : rok h v) : rok h' v := by
  cases v <;> first | trivial | exact he _ hv
theorem wp_alloced {a : Nat} {ls : Array Slot} {ad : Nat → Nat} {p : Program} {l : Launch} {e : Env} {s : State} {m : MethodId} {args : Array Value} {below : List Frame} {meth : Method} {c0 : Code} {H H' : Heap} {locs : List Loc} {h0 : HP} {ad0 : Nat → Nat} {pc' : Nat}
    (hC : Cxt g M p s m args meth c0) (hR : Rp g h ad H) (hS : va_S (BA g) s.heap H locs) (hl' : lv_has ls (mLoc M) (lv.map (rq ad))) (ho : ∀ v ∈ st, rok h v) (hq : ∀ q ∈ lv, rok h q.2) (hE : Ext h0 ad0 h ad) (ha : liv h a = false)
    (o1 : ∀ q, q < H.size → H'[q]? = H[q]?) (z1 : H'.size = H.size + 1) (hcE : cE g (sN h a) (up1 ad a H.size) a H') (kk : WP g M pc' lv (.ref a :: st) (sN h a) cs ss Post) :
    W p l e (mRm M) s m args below meth c0 H' locs cs ss (MQ below (QQ g h0 ad0 Post) args s (mRm M).cells (mRm M).slots (BA g)) (F0 m pc' ls (.ref H.size :: st.map (rn ad))) := by
  have hB : g.1 ≤ H.size := Nat.le_trans hC.2.2.2.2.2.2.2.2.2.2.2.2 hS.1
  obtain ⟨hR', key⟩ := Rp_new hR ha hB o1 hcE
  have e1 : Value.ref H.size :: st.map (rn ad) = (Value.ref a :: st).map (rn (up1 ad a H.size)) := by
    rw [List.map_cons, map_rn (fun b hb => (key b hb).2) ho]
    show _ = Value.ref (up1 ad a H.size a) :: _
    rw [show up1 ad a H.size a = H.size from if_pos rfl]
  rw [e1]
  refine kk p l e s m args below meth c0 H' locs ls (up1 ad a H.size) h0 ad0 hC hR' ⟨Nat.le_trans hS.1 (by omega), fun x h1 h2 => (o1 x (Nat.lt_of_lt_of_le h1 hS.1)).trans (hS.2.1 x h1 h2), hS.2.2⟩ ?_ (fac ?_ (fun v hv => rok_mono (fun b hb => (key b hb).1) (ho v hv))) (fun q hq' => rok_mono (fun b hb => (key b hb).1) (hq q hq')) (fun b hb => ⟨(key b (hE b hb).1).1, (key b (hE b hb).1).2.trans (hE b hb).2⟩)
  · rw [map_rq (fun b hb => (key b hb).2) hq]
    exact hl'
  · show (if a = a then true else _) = true
    rw [if_pos rfl]
def okT (t : FieldType) : Bool := match t with
  | .int => true
  | .boolean => true
  | .long => true
  | .object _ => true
  | .array _ => true
  | _ => false
theorem cl_ok {c : Nat} (hc : c < 8) : ∀ k, k < NF c → okT (FT c k) = true := by
  refine lt8 (P := fun c => ∀ k, k < NF c → okT (FT c k) = true) ?_ ?_ ?_ ?_ ?_ ?_ ?_ ?_ hc <;> decide +kernel
theorem okT_def {t : FieldType} (ht : okT t = true) (ad : Nat → Nat) : defaultValue t = fv ad t 0 0 none := by
  cases t <;> first | rfl | cases ht
theorem wp_new (a : Nat) {i c : Nat} (d : decode (mCode M) pc = .ok (.new i, 3)) (hc : c < 8) (hw : Cond.classLink (mOwn M) i (CN c) ∈ lw_tbl) (hi : Cond.instantiable (CN c) (NF c) ∈ lw_tbl) (hz : Cond.initialized (CN c) ∈ lw_tbl) (hk : kd a = c) (ha : liv h a = false) (hcs : cs + 1 ≤ (mRm M).cells) (hss : ss + NF c ≤ (mRm M).slots) (kk : WP g M (pc + 3) lv (.ref a :: st) (sN h a) (cs + 1) (ss + NF c) Post) : WP g M pc lv st h cs ss Post := by
  intro p l e s m args below meth c0 H locs ls ad h0 ad0 hC hR hS hl' ho hq hE
  obtain ⟨hx, hb, hr, hml, hown, hts, hlk, hnm, hX, hK, hN, hA, hB⟩ := id hC
  have hKn := hK.1 c _ (cl_at hc)
  refine W.newcK hx hb hown (hts _ (gw_of hw rfl)) (hts _ (gw_of hi rfl)) (hts _ (gw_of hz rfl)) rfl d hcs hss hKn.2.1 rfl fun H1 kC hkC e1 z1 o1 => ?_
  refine wp_alloced hC hR hS hl' ho hq hE ha o1 z1 ?_ kk
  unfold cE
  rw [hk, if_pos hc, show up1 ad a H.size a = H.size from if_pos rfl]
  refine (u_born (FT c) hts (cl_in hc) hKn hkC e1 (cl_ty hc)).to (fun k hkN => ?_)
  have eI : vI (sN h a) a k = 0 := by show (if a = a then (fun _ => (0 : Int32)) else _) k = 0; rw [if_pos rfl]
  have eL : vL (sN h a) a k = 0 := by show (if a = a then (fun _ => (0 : Int64)) else _) k = 0; rw [if_pos rfl]
  have eP : vP (sN h a) a k = none := by show (if a = a then (fun _ => (none : Option Nat)) else _) k = none; rw [if_pos rfl]
  rw [eI, eL, eP]
  exact okT_def (cl_ok hc k hkN) _
theorem sN_row (a : Nat) : vI (sN h a) a = (fun _ => 0) ∧ vL (sN h a) a = (fun _ => 0) ∧ vP (sN h a) a = (fun _ => none) := by
  refine ⟨?_, ?_, ?_⟩
  · show (if a = a then _ else _) = _; rw [if_pos rfl]
  · show (if a = a then _ else _) = _; rw [if_pos rfl]
  · show (if a = a then _ else _) = _; rw [if_pos rfl]
theorem wp_newa0 (a : Nat) {t : Nat} {ty : ArrayType} {n : Int32} (d : decode (mCode M) pc = .ok (.newarray ty, 2)) (hty : newarray.typeOf ty = AT t) (htk : ¬ t < 8) (hidx : (tysOf g)[t - 8]? = some (g.2.2 t, AT t)) (hprim : ∀ (s : State) (cA : ClassId), va_RA s cA (AT t) = (s.vm.findClass ("[" ++ (AT t).toString) = some cA)) (hw : Cond.arrayClass (AT t) ∈ lw_tbl)
    (hdef : ∀ (cA : ClassId) (N : Nat), vp_cell cA (N, aF t (fun _ => 0) (fun _ => 0) (fun _ => none)) = arrV cA N (fun _ => defaultValue (AT t))) (hk : kd a = t) (ha : liv h a = false) (hn0 : ¬ n < 0) (hn : n.toNatClampNeg = ln a) (hby : ln a * componentBytes (AT t) ≤ 536870912) (hcs : cs + 1 ≤ (mRm M).cells) (hss : ss + ln a ≤ (mRm M).slots)
    (kk : WP g M (pc + 2) lv (.ref a :: st) (sN h a) (cs + 1) (ss + ln a) Post) : WP g M pc lv (.int n :: st) h cs ss Post := by
  intro p l e s m args below meth c0 H locs ls ad h0 ad0 hC hR hS hl' ho hq hE
  obtain ⟨hx, hb, hr, hml, hown, hts, hlk, hnm, hX, hK, hN, hA, hB⟩ := id hC
  refine va_newaK hx hb (atype := ty) (by rw [hty]; exact hts _ (gw_of hw rfl)) rfl d rfl hn0 hn (by rw [hty]; exact hby) hcs hss rfl fun H1 cA e1 z1 o1 hAr hNm => ?_
  have h5 := (hK.2 (t - 8) _ hidx).2
  rw [hprim] at h5
  rw [hty] at hNm e1
  cases hNm.symm.trans h5
  refine wp_alloced hC hR hS hl' (fat ho) hq hE ha o1 z1 ?_ kk
  unfold cE
  rw [hk, if_neg htk, show up1 ad a H.size a = H.size from if_pos rfl, e1, (sN_row a).1, (sN_row a).2.1, (sN_row a).2.2, ← hdef]
  rfl
theorem wp_newI (a : Nat) {n : Int32} (d : decode (mCode M) pc = .ok (.newarray .int, 2)) (hk : kd a = 8) (ha : liv h a = false) (hn0 : ¬ n < 0) (hn : n.toNatClampNeg = ln a) (hby : ln a ≤ 1000) (hcs : cs + 1 ≤ (mRm M).cells) (hss : ss + ln a ≤ (mRm M).slots) (kk : WP g M (pc + 2) lv (.ref a :: st) (sN h a) (cs + 1) (ss + ln a) Post) : WP g M pc lv (.int n :: st) h cs ss Post :=
  wp_newa0 a (t := 8) d rfl (by decide) rfl (fun _ _ => rfl) (by decide +kernel) (fun _ _ => rfl) hk ha hn0 hn (by show ln a * 4 ≤ _; omega) hcs hss kk
theorem wp_newL (a : Nat) {n : Int32} (d : decode (mCode M) pc = .ok (.newarray .long, 2)) (hk : kd a = 9) (ha : liv h a = false) (hn0 : ¬ n < 0) (hn : n.toNatClampNeg = ln a) (hby : ln a ≤ 1000) (hcs : cs + 1 ≤ (mRm M).cells) (hss : ss + ln a ≤ (mRm M).slots) (kk : WP g M (pc + 2) lv (.ref a :: st) (sN h a) (cs + 1) (ss + ln a) Post) : WP g M pc lv (.int n :: st) h cs ss Post :=
  wp_newa0 a (t := 9) d rfl (by decide) rfl (fun _ _ => rfl) (by decide +kernel) (fun _ _ => rfl) hk ha hn0 hn (by show ln a * 8 ≤ _; omega) hcs hss kk
theorem wp_newZ (a : Nat) {n : Int32} (d : decode (mCode M) pc = .ok (.newarray .boolean, 2)) (hk : kd a = 10) (ha : liv h a = false) (hn0 : ¬ n < 0) (hn : n.toNatClampNeg = ln a) (hby : ln a ≤ 1000) (hcs : cs + 1 ≤ (mRm M).cells) (hss : ss + ln a ≤ (mRm M).slots) (kk : WP g M (pc + 2) lv (.ref a :: st) (sN h a) (cs + 1) (ss + ln a) Post) : WP g M pc lv (.int n :: st) h cs ss Post :=
  wp_newa0 a (t := 10) d rfl (by decide) rfl (fun _ _ => rfl) (by decide +kernel) (fun _ _ => rfl) hk ha hn0 hn (by show ln a * 1 ≤ _; omega) hcs hss kk
theorem wp_newQ (a : Nat) {i t : Nat} {n : Int32} (d : decode (mCode M) pc = .ok (.anewarray i, 3)) (h1 : 10 < t) (h2 : t < 15) (hw : Cond.classLink (mOwn M) i (CN (eC t)) ∈ lw_tbl) (hk : kd a = t) (ha : liv h a = false) (hn0 : ¬ n < 0) (hn : n.toNatClampNeg = ln a) (hby : ln a ≤ 1000) (hcs : cs + 1 ≤ (mRm M).cells) (hss : ss + ln a ≤ (mRm M).slots) (kk : WP g M (pc + 3) lv (.ref a :: st) (sN h a) (cs + 1) (ss + ln a) Post) : WP g M pc lv (.int n :: st) h cs ss Post := by
  intro p l e s m args below meth c0 H locs ls ad h0 ad0 hC hR hS hl' ho hq hE
  obtain ⟨hx, hb, hr, hml, hown, hts, hlk, hnm, hX, hK, hN, hA, hB⟩ := id hC
  obtain ⟨C, kt, hAT, ht⟩ := tys_ref (g := g) h1 h2
  have hCN : C = CN (eC t) ∧ va_AO C s := by
    match t, h1, h2, hAT with
    | 11, _, _, q => cases q; exact ⟨rfl, hA.1⟩
    | 12, _, _, q => cases q; exact ⟨rfl, hA.2.1⟩
    | 13, _, _, q => cases q; exact ⟨rfl, hA.2.2.1⟩
    | 14, _, _, q => cases q; exact ⟨rfl, hA.2.2.2⟩
    | n + 15, _, h, _ => exact absurd h (by omega)
  obtain ⟨kA2, comp2, -, -, -, hNm⟩ := (hK.2 kt _ ht).2
  refine W.anew hx hb hown (hts _ (gw_of hw rfl)) (by rw [← hCN.1]; exact va_AO.use hCN.2) rfl d rfl hn0 (by rw [hn]; omega) hcs (by rw [hn]; exact hss) fun cA kA comp f1 f2 f3 f4 => ?_
  rw [← hCN.1] at f1
  cases f1.symm.trans hNm
  rw [hn]
  refine wp_alloced hC hR hS hl' (fat ho) hq hE ha (fun q hq => by rw [Array.getElem?_push, if_neg (Nat.ne_of_lt hq)]) (by rw [Array.size_push]) ?_ kk
  unfold cE
  rw [hk, if_neg (by omega), show up1 ad a H.size a = H.size from if_pos rfl, Array.getElem?_push_size, arrV_new, (sN_row a).1, (sN_row a).2.1, (sN_row a).2.2, aF_ref h1]
  rfl
end Alloc
end
section
section Calls
variable {g : GG} {M M' : MD} {pc : Nat} {lv : List (Nat × Value)} {st rest av : List Value} {h : HP} {cs ss : Nat} {Post : Option Value → HP → Prop} {y : MethodName} {i n : Nat}
theorem args_rq (ad : Nat → Nat) : ∀ (av : List Value) (i : Nat), lv_args i (av.map (rn ad)) = (lv_args i av).map (rq ad)
  | [], _ => rfl
  | v :: vs, i => by
    show (i, rn ad v) :: lv_args (if (rn ad v).category = 2 then i + 2 else i + 1) (vs.map (rn ad)) = rq ad (i, v) :: (lv_args (if v.category = 2 then i + 2 else i + 1) vs).map (rq ad)
    rw [rn_cat, args_rq ad vs]
    rfl
theorem args_len (ad : Nat → Nat) : ∀ (av : List Value), (lg_sl (av.map (rn ad))).length = (lg_sl av).length
  | [] => rfl
  | v :: vs => by
    have ih := args_len ad vs
    unfold lg_sl at ih ⊢
    rw [List.map_cons, List.flatMap_cons, List.flatMap_cons, List.length_append, List.length_append, ih, rn_cat]
    split <;> rfl
theorem args_ok : ∀ (av : List Value) (i : Nat), (∀ v ∈ av, rok h v) → ∀ q ∈ lv_args i av, rok h q.2
  | [], _, _, q, hq => by cases hq
  | v :: vs, i, ha, q, hq => by
    rcases List.mem_cons.mp hq with rfl | hq
    · exact ha v List.mem_cons_self
    · exact args_ok vs _ (fun w hw => ha w (List.mem_cons_of_mem _ hw)) q hq
/-- what is known of a method that is called -/
def isM (y : MethodName) (M : MD) (n : Nat) : Prop := y.cls = mOwn M ∧ y.name = mNm M ∧ plainFor y = true ∧ y.cls ≠ "java/lang/invoke/MethodHandle" ∧ y.cls ≠ "java/lang/invoke/VarHandle" ∧ (parseMethodDescriptor y.desc).map (fun d => d.parameters.length) = some n ∧ Cond.code y (mCode M) (mLoc M) (mRet M) ∈ lw_tbl ∧ Cond.initialized y.cls ∈ lw_tbl
def rmK (M M' : MD) : Prop := (mRm M').frames + 1 ≤ (mRm M).frames ∧ 8 + (mLoc M' + 11) + (mRm M').locals ≤ (mRm M).locals
def wsM (y : MethodName) (M : MD) : List Cond := Cond.code y (mCode M) (mLoc M) (mRet M) :: gw
theorem wsM_good {n : Nat} (hm : isM y M n) : GoodIn gw (wsM y M) := by
  intro w hw
  rcases List.mem_cons.mp hw with rfl | hw
  · exact ⟨gw_of hm.2.2.2.2.2.2.1 rfl, good_of_word rfl⟩
  · exact gw_good w hw
def PcM (g : GG) (av : List Value) (h : HP) (ad : Nat → Nat) : Array Value → State → Prop := fun a U => a = (av.map (rn ad)).toArray ∧ Rp g h ad U.heap ∧ Wd g U
theorem Wd_warm {s U : State} (hW : s.WarmedH U.vm) (hB : g.1 ≤ U.heap.size) (h : Wd g s) : Wd g U := by
  obtain ⟨h1, h2, ⟨a1, a2, a3, a4⟩, -⟩ := h
  exact ⟨va_K.moved hW.alike h1, fun q hq => va_Nw.warmM hW (h2 q hq), ⟨a1.moved hW.alike, a2.moved hW.alike, a3.moved hW.alike, a4.moved hW.alike⟩, hB⟩
theorem PcM_blind {ad : Nat → Nat} : FrameBlind (PcM g av h ad) := by
  intro a U gf mk hq
  obtain ⟨q0, q1, h1, h2, ⟨a1, a2, a3, a4⟩, h4⟩ := hq
  exact ⟨q0, q1, va_K.moved (u := U) (U := U.calling gf mk a) (Vm.Alike.refl U.vm) h1, fun q hq => va_Nw.same rfl (rfl : U.vm = (U.calling gf mk a).vm) (h2 q hq), ⟨a1, a2, a3, a4⟩, h4⟩
theorem met_of (l : Launch) (ad : Nat → Nat) (hc : CT g M av h Post) (hX : ∀ s, mX M s) (hm : isM y M n) (hlen : (lg_sl av).length ≤ mLoc M) (hav : ∀ v ∈ av, rok h v) : Met l y (wsM y M) (mRm M) (PcM g av h ad) (QQ g h ad Post) (mRm M).cells (mRm M).slots (BA g) := by
  obtain ⟨hcls, hnm, hpl, -⟩ := hm
  refine va_MetF (cc := mCode M) (maxL := mLoc M) (ret := mRet M) hpl rfl ?_
  intro p e s m args below meth c s₁ B hml hv
  obtain ⟨rfl, hR, hW⟩ := hv
  have hts := atoms_spec (ws := wsM y M) B.pre
  have hown : s.vm.findClass y.cls = some m.cls := findClass_of_methodNamed B.named
  have hin : meth.name = y.name := (name_of_methodNamed B.named B.method).1
  rw [lg_entry_eq]
  have hl := lv_entry (av.map (rn ad)) (n := mLoc M) (by rw [args_len]; exact hlen)
  rw [args_rq] at hl
  exact hc p l e s m _ below meth c s.heap [] _ ad h ad ⟨B.exec, B.bytes, B.returns, hml, by rw [← hcls]; exact hown, fun w hw => hts w (List.mem_cons_of_mem _ hw), B.notSynchronized, hin.trans hnm, hX s, hW⟩ hR va_S.rf hl (fun v h => by cases h) (args_ok av 0 hav) (fun a ha => ⟨ha, rfl⟩)
theorem wp_ran {ls : Array Slot} {ad : Nat → Nat} {p : Program} {l : Launch} {e : Env} {s : State} {m : MethodId} {args : Array Value} {below : List Frame} {meth : Method} {c0 : Code} {H : Heap} {locs : List Loc} {h0 : HP} {ad0 : Nat → Nat} {mc ms : Nat} {st0 : List Value} {a : Array Value}
    (hr : va_Run p l e (mRm M) s m args below meth c0 H locs cs ss mc ms (F0 m pc ls st0) (rest.map (rn ad)) (QQ g h ad (fun v h' => WP g M (pc + 3) lv (v.toList ++ rest) h' (cs + mc) (ss + ms) Post) a) (BA g))
    (hC : Cxt g M p s m args meth c0) (hS : va_S (BA g) s.heap H locs) (hl' : lv_has ls (mLoc M) (lv.map (rq ad))) (ho : ∀ v ∈ rest, rok h v) (hq : ∀ q ∈ lv, rok h q.2) (hE : Ext h0 ad0 h ad) :
    W p l e (mRm M) s m args below meth c0 H locs cs ss (MQ below (QQ g h0 ad0 Post) args s (mRm M).cells (mRm M).slots (BA g)) (F0 m pc ls st0) := by
  intro T hT X
  obtain ⟨v, st₀, t, T', L, hh, X', hL, e1, e2, ⟨v', h', ad', hv, hpost, hR', hE', hok, hz, hk⟩, st⟩ := hr T hT X
  cases hv
  rw [hh] at hz hk
  have key : ∀ b, liv h b = true → ad' b = ad b := fun b hb => (hE' b hb).2
  obtain ⟨t2, a1, b1⟩ := hpost p l e s m args below meth c0 T'.heap (locs ++ L) ls ad' h0 ad0 hC (by rw [e1]; exact hR')
    ⟨Nat.le_trans hS.1 (by rw [e1]; exact hz), fun q h1 h2 => by rw [e1, hk q (Nat.lt_of_lt_of_le h1 hS.1) h2]; exact hS.2.1 q h1 h2, fun q hq => by
      rcases List.mem_append.mp hq with h | h
      · exact hS.2.2 q h
      · exact hL q h⟩
    (by rw [map_rq key hq]; exact hl') (fun w hw => by
      rcases List.mem_append.mp hw with h | h
      · cases v' with
        | none => cases h
        | some x => rw [Option.toList_some, List.mem_singleton] at h; subst h; exact hok _ rfl
      · exact rok_mono (fun b hb => (hE' b hb).1) (ho w h)) (fun q hq' => rok_mono (fun b hb => (hE' b hb).1) (hq q hq')) (fun b hb => ⟨(hE' b (hE b hb).1).1, (hE' b (hE b hb).1).2.trans (hE b hb).2⟩) T' rfl X'
  refine ⟨t2, st t2 ?_, b1⟩
  have e3 : (v'.map (rn ad')).toList ++ rest.map (rn ad) = (v'.toList ++ rest).map (rn ad') := by
    rw [List.map_append, map_rn key ho]
    cases v' <;> rfl
  rw [e3]
  exact a1
theorem cat_map {ad : Nat → Nat} : ((rest.map (rn ad)).map fun v => v.category).sum = (rest.map fun v => v.category).sum := by
  rw [List.map_map]
  congr 1
  apply List.map_congr_left
  intro v _
  exact rn_cat ad v
theorem rn_args {ad : Nat → Nat} : (av.reverse ++ rest).map (rn ad) = (av.map (rn ad)).reverse ++ rest.map (rn ad) := by rw [List.map_append, List.map_reverse]
theorem isM_b {R : Room} {s : State} {args : Array Value} (hts : ∀ w ∈ gw, w.before args s = true) (hm : isM y M' n) (hl : Cond.methodLink (mOwn M) i y ∈ lw_tbl) (hR : (mRm M').frames + 1 ≤ R.frames ∧ 8 + (mLoc M' + 11) + (mRm M').locals ≤ R.locals) : CallB R s args (mOwn M) i y (mCode M') (mLoc M') (mRet M') (wsM y M') (mRm M') (mRm M').cells (mRm M').slots n :=
  callB_of n hts (wsM_good hm) rfl rfl rfl (hts _ (gw_of hm.2.2.2.2.2.2.2 rfl)) (hts _ (gw_of hl rfl)) ⟨hm.2.2.2.1, hm.2.2.2.2.1, hm.2.2.2.2.2.1⟩ hR
theorem isM_n {R : Room} {s : State} {args : Array Value} {host : String} (hts : ∀ w ∈ gw, w.before args s = true) (hm : isM y M' n) (hl : va_Nw (.methodLinkNest (mOwn M) i y host) s) (hR : (mRm M').frames + 1 ≤ R.frames ∧ 8 + (mLoc M' + 11) + (mRm M').locals ≤ R.locals) : va_CN R s args (mOwn M) i y host (mCode M') (mLoc M') (mRet M') (wsM y M') (mRm M') (mRm M').cells (mRm M').slots n :=
  va_cnB n hts (wsM_good hm) rfl rfl rfl hl (hts _ (gw_of hm.2.2.2.2.2.2.2 rfl)) ⟨hm.2.2.2.1, hm.2.2.2.2.1, hm.2.2.2.2.2.1⟩ hR
theorem rev_ok (ho : ∀ v ∈ av.reverse ++ rest, rok h v) : (∀ v ∈ av, rok h v) ∧ ∀ v ∈ rest, rok h v := ⟨fun v hv => ho v (List.mem_append_left _ (List.mem_reverse.mpr hv)), fun v hv => ho v (List.mem_append_right _ hv)⟩
/-- invokestatic, of the same class -/
theorem wp_callS (M' : MD) (av rest : List Value) (d : decode (mCode M) pc = .ok (.invokestatic i, 3)) (hm : isM y M' n) (hX : ∀ s, mX M' s) (hl : Cond.methodLink (mOwn M) i y ∈ lw_tbl) (hst : Cond.static y ∈ lw_tbl) (hR : rmK M M') (hs : st = av.reverse ++ rest) (hn : av.length = n) (hlen : (lg_sl av).length ≤ mLoc M') (hcat : (rest.map fun v => v.category).sum ≤ 8) (hcs : cs + (mRm M').cells ≤ (mRm M).cells) (hss : ss + (mRm M').slots ≤ (mRm M).slots)
    (kk : CT g M' av h (fun v h' => WP g M (pc + 3) lv (v.toList ++ rest) h' (cs + (mRm M').cells) (ss + (mRm M').slots) Post)) : WP g M pc lv st h cs ss Post := by
  subst hs
  intro p l e s m args below meth c0 H locs ls ad h0 ad0 hC hR' hS hl' ho hq hE
  obtain ⟨hx, hb, hr, hml, hown, hts, hlk, hnm, hX2, hW⟩ := id hC
  obtain ⟨ho1, ho2⟩ := rev_ok ho
  exact wp_ran (va_runS (Ts := gw) (own := mOwn M) ⟨hx, hb, hml, hown, hts⟩ (met_of l ad kk hX hm hlen ho1) ⟨isM_b (M := M) hts hm hl hR, hts _ (gw_of hst rfl)⟩ ⟨PcM_blind, fun U hU hWm => ⟨rfl, by rw [hU]; exact hR', Wd_warm hWm (by rw [hU]; exact Nat.le_trans hW.2.2.2 hS.1) hW⟩⟩ rfl (by rw [List.length_map]; exact hn) hl'.1 rn_args (lv_room (by rw [cat_map]; exact hcat)) d ⟨hcs, hss⟩) hC hS hl' ho2 hq hE
/-- invokestatic of a nest mate's private method -/
theorem wp_callSN (M' : MD) (av rest : List Value) {host : String} (d : decode (mCode M) pc = .ok (.invokestatic i, 3)) (hm : isM y M' n) (hX : ∀ s, mX M' s) (hl : (mOwn M, i, y, host) ∈ nW) (hst : Cond.static y ∈ lw_tbl) (hR : rmK M M') (hs : st = av.reverse ++ rest) (hn : av.length = n) (hlen : (lg_sl av).length ≤ mLoc M') (hcat : (rest.map fun v => v.category).sum ≤ 8) (hcs : cs + (mRm M').cells ≤ (mRm M).cells) (hss : ss + (mRm M').slots ≤ (mRm M).slots)
    (kk : CT g M' av h (fun v h' => WP g M (pc + 3) lv (v.toList ++ rest) h' (cs + (mRm M').cells) (ss + (mRm M').slots) Post)) : WP g M pc lv st h cs ss Post := by
  subst hs
  intro p l e s m args below meth c0 H locs ls ad h0 ad0 hC hR' hS hl' ho hq hE
  obtain ⟨hx, hb, hr, hml, hown, hts, hlk, hnm, hX2, hW⟩ := id hC
  obtain ⟨ho1, ho2⟩ := rev_ok ho
  exact wp_ran (va_runSN (Ts := gw) (own := mOwn M) ⟨hx, hb, hml, hown, hts⟩ (met_of l ad kk hX hm hlen ho1) ⟨isM_n (M := M) hts hm (hW.2.1 _ hl) hR, hts _ (gw_of hst rfl), trivial⟩ ⟨PcM_blind, fun U hU hWm => ⟨rfl, by rw [hU]; exact hR', Wd_warm hWm (by rw [hU]; exact Nat.le_trans hW.2.2.2 hS.1) hW⟩⟩ rfl (by rw [List.length_map]; exact hn) hl'.1 rn_args (lv_room (by rw [cat_map]; exact hcat)) d ⟨hcs, hss⟩) hC hS hl' ho2 hq hE
/-- invokespecial of a constructor -/
theorem wp_callI (M' : MD) (b : Nat) (av rest : List Value) (d : decode (mCode M) pc = .ok (.invokespecial i, 3)) (hm : isM y M' n) (hX : ∀ s, mX M' s) (hre : mRet M' = none) (hin : y.name = "<init>") (hl : Cond.methodLink (mOwn M) i y ∈ lw_tbl) (hst : Cond.instanceMethod y ∈ lw_tbl) (hR : rmK M M') (hs : st = av.reverse ++ .ref b :: rest) (hn : av.length = n) (hlen : (lg_sl (.ref b :: av)).length ≤ mLoc M') (hcat : (rest.map fun v => v.category).sum ≤ 8) (hcs : cs + (mRm M').cells ≤ (mRm M).cells) (hss : ss + (mRm M').slots ≤ (mRm M).slots)
    (kk : CT g M' (.ref b :: av) h (fun v h' => WP g M (pc + 3) lv (v.toList ++ rest) h' (cs + (mRm M').cells) (ss + (mRm M').slots) Post)) : WP g M pc lv st h cs ss Post := by
  subst hs
  intro p l e s m args below meth c0 H locs ls ad h0 ad0 hC hR' hS hl' ho hq hE
  obtain ⟨hx, hb, hr, hml, hown, hts, hlk, hnm, hX2, hW⟩ := id hC
  obtain ⟨ho1, ho2⟩ := rev_ok ho
  have hb1 := isM_b (M := M) hts hm hl hR
  rw [hre] at hb1
  exact wp_ran (va_runI (Ts := gw) (own := mOwn M) (b := ad b) (As := av.map (rn ad)) ⟨hx, hb, hml, hown, hts⟩ (met_of l ad kk hX hm hlen (fac (fa1 ho2) ho1)) ⟨hb1, hin, hts _ (gw_of hst rfl)⟩ ⟨PcM_blind, fun U hU hWm => ⟨rfl, by rw [hU]; exact hR', Wd_warm hWm (by rw [hU]; exact Nat.le_trans hW.2.2.2 hS.1) hW⟩⟩ rfl (by rw [List.length_map]; exact hn) hl'.1 rn_args (lv_room (by rw [cat_map]; exact hcat)) d ⟨hcs, hss⟩) hC hS hl' (fat ho2) hq hE
/-- invokespecial of a nest mate's private constructor -/
theorem wp_callIN (M' : MD) (b : Nat) (av rest : List Value) {host : String} (d : decode (mCode M) pc = .ok (.invokespecial i, 3)) (hm : isM y M' n) (hX : ∀ s, mX M' s) (hre : mRet M' = none) (hin : y.name = "<init>") (hl : (mOwn M, i, y, host) ∈ nW) (hst : Cond.instanceMethod y ∈ lw_tbl) (hR : rmK M M') (hs : st = av.reverse ++ .ref b :: rest) (hn : av.length = n) (hlen : (lg_sl (.ref b :: av)).length ≤ mLoc M') (hcat : (rest.map fun v => v.category).sum ≤ 8) (hcs : cs + (mRm M').cells ≤ (mRm M).cells) (hss : ss + (mRm M').slots ≤ (mRm M).slots)
    (kk : CT g M' (.ref b :: av) h (fun v h' => WP g M (pc + 3) lv (v.toList ++ rest) h' (cs + (mRm M').cells) (ss + (mRm M').slots) Post)) : WP g M pc lv st h cs ss Post := by
  subst hs
  intro p l e s m args below meth c0 H locs ls ad h0 ad0 hC hR' hS hl' ho hq hE
  obtain ⟨hx, hb, hr, hml, hown, hts, hlk, hnm, hX2, hW⟩ := id hC
  obtain ⟨ho1, ho2⟩ := rev_ok ho
  have hb1 := isM_n (M := M) hts hm (hW.2.1 _ hl) hR
  rw [hre] at hb1
  exact wp_ran (va_runIN (Ts := gw) (own := mOwn M) (b := ad b) (As := av.map (rn ad)) ⟨hx, hb, hml, hown, hts⟩ (met_of l ad kk hX hm hlen (fac (fa1 ho2) ho1)) ⟨hb1, hin, hts _ (gw_of hst rfl)⟩ ⟨PcM_blind, fun U hU hWm => ⟨rfl, by rw [hU]; exact hR', Wd_warm hWm (by rw [hU]; exact Nat.le_trans hW.2.2.2 hS.1) hW⟩⟩ rfl (by rw [List.length_map]; exact hn) hl'.1 rn_args (lv_room (by rw [cat_map]; exact hcat)) d ⟨hcs, hss⟩) hC hS hl' (fat ho2) hq hE
/-- invokevirtual -/
theorem wp_callV (M' : MD) (b : Nat) (av rest : List Value) {c : Nat} (d : decode (mCode M) pc = .ok (.invokevirtual i, 3)) (hm : isM y M' n) (hX : ∀ s, mX M' s) (hl : Cond.methodLink (mOwn M) i y ∈ lw_tbl) (hst : Cond.instanceMethod y ∈ lw_tbl) (hse : Cond.selects y.cls y y ∈ lw_tbl) (hcc : c < 8) (hcn : CN c = y.cls) (hk : kd b = c) (hR : rmK M M') (hs : st = av.reverse ++ .ref b :: rest) (hn : av.length = n) (hlen : (lg_sl (.ref b :: av)).length ≤ mLoc M') (hcat : (rest.map fun v => v.category).sum ≤ 8) (hcs : cs + (mRm M').cells ≤ (mRm M).cells) (hss : ss + (mRm M').slots ≤ (mRm M).slots)
    (kk : CT g M' (.ref b :: av) h (fun v h' => WP g M (pc + 3) lv (v.toList ++ rest) h' (cs + (mRm M').cells) (ss + (mRm M').slots) Post)) : WP g M pc lv st h cs ss Post := by
  subst hs
  intro p l e s m args below meth c0 H locs ls ad h0 ad0 hC hR' hS hl' ho hq hE
  obtain ⟨hx, hb, hr, hml, hown, hts, hlk, hnm, hX2, hW⟩ := id hC
  obtain ⟨ho1, ho2⟩ := rev_ok ho
  have hlb : liv h b = true := fa1 ho2
  obtain ⟨cell, g1, g2, g3, -⟩ := cE_obj hk hcc (hR'.1 b hlb).2
  have hcell : ∃ cellB : Cell, H[ad b]? = some cellB ∧ cellB.vm.isStatics = false ∧ s.vm.findClass y.cls = some cellB.cls := ⟨cell, g1, by rw [g3]; rfl, by rw [g2, ← hcn]; exact (hW.1.1 c _ (cl_at hcc)).2.1⟩
  exact wp_ran (va_runV (Ts := gw) (own := mOwn M) (C := y.cls) (b := ad b) (As := av.map (rn ad)) ⟨hx, hb, hml, hown, hts⟩ (met_of l ad kk hX hm hlen (fac hlb ho1)) ⟨isM_b (M := M) hts hm hl hR, hts _ (gw_of hst rfl), hts _ (gw_of hse rfl)⟩ ⟨PcM_blind, hcell, fun U hU hWm => ⟨rfl, by rw [hU]; exact hR', Wd_warm hWm (by rw [hU]; exact Nat.le_trans hW.2.2.2 hS.1) hW⟩⟩ rfl (by rw [List.length_map]; exact hn) hl'.1 rn_args (lv_room (by rw [cat_map]; exact hcat)) d ⟨hcs, hss⟩) hC hS hl' (fat ho2) hq hE
/-- Object's own constructor -/
theorem wp_obj {a : Nat} (d : decode (mCode M) pc = .ok (.invokespecial i, 3)) (hl : Cond.methodLink (mOwn M) i objectInit ∈ lw_tbl) (hi : Cond.instanceMethod objectInit ∈ lw_tbl) (hc : Cond.code objectInit ⟨#[0xb1]⟩ 1 none ∈ lw_tbl) (hf : 1 ≤ (mRm M).frames) (hlo : (st.map fun v => v.category).sum + 12 ≤ (mRm M).locals) (kk : WP g M (pc + 3) lv st h cs ss Post) : WP g M pc lv (.ref a :: st) h cs ss Post := by
  intro p l e s m args below meth c0 H locs ls ad h0 ad0 hC hR' hS hl' ho hq hE
  obtain ⟨hx, hb, hr, hml, hown, hts, hlk, hnm, hX2, hW⟩ := id hC
  refine W.objInit hx hb hown (hts _ (gw_of hl rfl)) (hts _ (gw_of hi rfl)) (hts _ (gw_of hc rfl)) rfl (by rw [hml]; exact hl'.1) rfl d hf ?_ (kk p l e s m args below meth c0 H locs ls ad h0 ad0 hC hR' hS hl' (fat ho) hq hE)
  rw [cat_map]
  show 2 * 0 + _ + 12 ≤ _
  omega
end Calls
end
section
def mX0_init : MD := (RX0, cX0_init, 1, none, "<init>", { frames := 1, cells := 3, slots := 30, locals := 40 }, fun _ => True)
theorem iX0_init : isM yX0_init mX0_init 0 := ⟨rfl, rfl, by decide +kernel, by decide +kernel, by decide +kernel, by decide +kernel, List.mem_of_getElem? (i := 55) (by decide +kernel), List.mem_of_getElem? (i := 29) (by decide +kernel)⟩
def mX0_clear : MD := (RX0, cX0_clear, 1, none, "clear", { frames := 0, cells := 0, slots := 0, locals := 0 }, fun _ => True)
theorem iX0_clear : isM yX0_clear mX0_clear 0 := ⟨rfl, rfl, by decide +kernel, by decide +kernel, by decide +kernel, by decide +kernel, List.mem_of_getElem? (i := 464) (by decide +kernel), List.mem_of_getElem? (i := 29) (by decide +kernel)⟩
def mX0_add : MD := (RX0, cX0_add, 6, none, "add", { frames := 0, cells := 0, slots := 0, locals := 0 }, fun _ => True)
theorem iX0_add : isM yX0_add mX0_add 3 := ⟨rfl, rfl, by decide +kernel, by decide +kernel, by decide +kernel, by decide +kernel, List.mem_of_getElem? (i := 468) (by decide +kernel), List.mem_of_getElem? (i := 29) (by decide +kernel)⟩
def mX0_having : MD := (RX0, cX0_having, 5, some .int, "having", { frames := 0, cells := 0, slots := 0, locals := 0 }, fun _ => True)
theorem iX0_having : isM yX0_having mX0_having 1 := ⟨rfl, rfl, by decide +kernel, by decide +kernel, by decide +kernel, by decide +kernel, List.mem_of_getElem? (i := 472) (by decide +kernel), List.mem_of_getElem? (i := 29) (by decide +kernel)⟩
def mX0_least : MD := (RX0, cX0_least, 5, some .long, "least", { frames := 1, cells := 0, slots := 0, locals := 24 }, fun _ => True)
theorem iX0_least : isM yX0_least mX0_least 1 := ⟨rfl, rfl, by decide +kernel, by decide +kernel, by decide +kernel, by decide +kernel, List.mem_of_getElem? (i := 489) (by decide +kernel), List.mem_of_getElem? (i := 29) (by decide +kernel)⟩
def mX0_greatest : MD := (RX0, cX0_greatest, 5, some .long, "greatest", { frames := 1, cells := 0, slots := 0, locals := 24 }, fun _ => True)
theorem iX0_greatest : isM yX0_greatest mX0_greatest 1 := ⟨rfl, rfl, by decide +kernel, by decide +kernel, by decide +kernel, by decide +kernel, List.mem_of_getElem? (i := 494) (by decide +kernel), List.mem_of_getElem? (i := 29) (by decide +kernel)⟩
def mX0_beganBefore : MD := (RX0, cX0_beganBefore, 3, some .boolean, "beganBefore", { frames := 0, cells := 0, slots := 0, locals := 0 }, fun _ => True)
theorem iX0_beganBefore : isM yX0_beganBefore mX0_beganBefore 1 := ⟨rfl, rfl, by decide +kernel, by decide +kernel, by decide +kernel, by decide +kernel, List.mem_of_getElem? (i := 485) (by decide +kernel), List.mem_of_getElem? (i := 29) (by decide +kernel)⟩
def mX0_pieces : MD := (RX0, cX0_pieces, 5, some .int, "pieces", { frames := 1, cells := 0, slots := 0, locals := 24 }, fun _ => True)
theorem iX0_pieces : isM yX0_pieces mX0_pieces 1 := ⟨rfl, rfl, by decide +kernel, by decide +kernel, by decide +kernel, by decide +kernel, List.mem_of_getElem? (i := 480) (by decide +kernel), List.mem_of_getElem? (i := 29) (by decide +kernel)⟩
def mX0_apartFrom : MD := (RX0, cX0_apartFrom, 7, some .int, "apartFrom", { frames := 0, cells := 0, slots := 0, locals := 0 }, fun _ => True)
theorem iX0_apartFrom : isM yX0_apartFrom mX0_apartFrom 2 := ⟨rfl, rfl, by decide +kernel, by decide +kernel, by decide +kernel, by decide +kernel, List.mem_of_getElem? (i := 498) (by decide +kernel), List.mem_of_getElem? (i := 29) (by decide +kernel)⟩
def mX1_init : MD := (RX1, cX1_init, 5, none, "<init>", { frames := 1, cells := 0, slots := 0, locals := 40 }, fun _ => True)
theorem iX1_init : isM yX1_init mX1_init 3 := ⟨rfl, rfl, by decide +kernel, by decide +kernel, by decide +kernel, by decide +kernel, List.mem_of_getElem? (i := 359) (by decide +kernel), List.mem_of_getElem? (i := 35) (by decide +kernel)⟩
def mX1_isUnderWay : MD := (RX1, cX1_isUnderWay, 1, some .boolean, "isUnderWay", { frames := 0, cells := 0, slots := 0, locals := 0 }, fun _ => True)
theorem iX1_isUnderWay : isM yX1_isUnderWay mX1_isUnderWay 0 := ⟨rfl, rfl, by decide +kernel, by decide +kernel, by decide +kernel, by decide +kernel, List.mem_of_getElem? (i := 409) (by decide +kernel), List.mem_of_getElem? (i := 35) (by decide +kernel)⟩
def mJ9_floorDiv_f86c9 : MD := (RJ9, cJ9_floorDiv_f86c9, 6, some .long, "floorDiv", { frames := 0, cells := 0, slots := 0, locals := 0 }, fun _ => True)
theorem iJ9_floorDiv_f86c9 : isM yJ9_floorDiv_f86c9 mJ9_floorDiv_f86c9 2 := ⟨rfl, rfl, by decide +kernel, by decide +kernel, by decide +kernel, by decide +kernel, List.mem_of_getElem? (i := 302) (by decide +kernel), List.mem_of_getElem? (i := 34) (by decide +kernel)⟩
def mX6_floorOf : MD := (RX6, cX6_floorOf, 4, some .long, "floorOf", { frames := 1, cells := 0, slots := 0, locals := 25 }, fun _ => True)
theorem iX6_floorOf : isM yX6_floorOf mX6_floorOf 2 := ⟨rfl, rfl, by decide +kernel, by decide +kernel, by decide +kernel, by decide +kernel, List.mem_of_getElem? (i := 299) (by decide +kernel), List.mem_of_getElem? (i := 28) (by decide +kernel)⟩
def mX2_countedAt : MD := (RX2, cX2_countedAt, 3, some .long, "countedAt", { frames := 2, cells := 0, slots := 0, locals := 48 }, fun _ => True)
theorem iX2_countedAt : isM yX2_countedAt mX2_countedAt 1 := ⟨rfl, rfl, by decide +kernel, by decide +kernel, by decide +kernel, by decide +kernel, List.mem_of_getElem? (i := 296) (by decide +kernel), List.mem_of_getElem? (i := 32) (by decide +kernel)⟩
def mX6_atLeast : MD := (RX6, cX6_atLeast, 3, some .long, "atLeast", { frames := 2, cells := 0, slots := 0, locals := 48 }, fun _ => True)
theorem iX6_atLeast : isM yX6_atLeast mX6_atLeast 2 := ⟨rfl, rfl, by decide +kernel, by decide +kernel, by decide +kernel, by decide +kernel, List.mem_of_getElem? (i := 318) (by decide +kernel), List.mem_of_getElem? (i := 28) (by decide +kernel)⟩
def mX4_lowWhen : MD := (RX4, cX4_lowWhen, 4, some .long, "lowWhen", { frames := 3, cells := 0, slots := 0, locals := 70 }, fun _ => True)
theorem iX4_lowWhen : isM yX4_lowWhen mX4_lowWhen 2 := ⟨rfl, rfl, by decide +kernel, by decide +kernel, by decide +kernel, by decide +kernel, List.mem_of_getElem? (i := 315) (by decide +kernel), List.mem_of_getElem? (i := 33) (by decide +kernel)⟩
def mX2_lowAt : MD := (RX2, cX2_lowAt, 3, some .long, "lowAt", { frames := 4, cells := 0, slots := 0, locals := 93 }, fun _ => True)
theorem iX2_lowAt : isM yX2_lowAt mX2_lowAt 1 := ⟨rfl, rfl, by decide +kernel, by decide +kernel, by decide +kernel, by decide +kernel, List.mem_of_getElem? (i := 310) (by decide +kernel), List.mem_of_getElem? (i := 32) (by decide +kernel)⟩
def mX6_ceilOf : MD := (RX6, cX6_ceilOf, 4, some .long, "ceilOf", { frames := 1, cells := 0, slots := 0, locals := 25 }, fun _ => True)
theorem iX6_ceilOf : isM yX6_ceilOf mX6_ceilOf 2 := ⟨rfl, rfl, by decide +kernel, by decide +kernel, by decide +kernel, by decide +kernel, List.mem_of_getElem? (i := 333) (by decide +kernel), List.mem_of_getElem? (i := 28) (by decide +kernel)⟩
def mX6_atMost : MD := (RX6, cX6_atMost, 3, some .long, "atMost", { frames := 2, cells := 0, slots := 0, locals := 48 }, fun _ => True)
theorem iX6_atMost : isM yX6_atMost mX6_atMost 2 := ⟨rfl, rfl, by decide +kernel, by decide +kernel, by decide +kernel, by decide +kernel, List.mem_of_getElem? (i := 330) (by decide +kernel), List.mem_of_getElem? (i := 28) (by decide +kernel)⟩
def mX4_highWhen : MD := (RX4, cX4_highWhen, 4, some .long, "highWhen", { frames := 3, cells := 0, slots := 0, locals := 70 }, fun _ => True)
theorem iX4_highWhen : isM yX4_highWhen mX4_highWhen 2 := ⟨rfl, rfl, by decide +kernel, by decide +kernel, by decide +kernel, by decide +kernel, List.mem_of_getElem? (i := 327) (by decide +kernel), List.mem_of_getElem? (i := 33) (by decide +kernel)⟩
def mX2_highAt : MD := (RX2, cX2_highAt, 3, some .long, "highAt", { frames := 4, cells := 0, slots := 0, locals := 93 }, fun _ => True)
theorem iX2_highAt : isM yX2_highAt mX2_highAt 1 := ⟨rfl, rfl, by decide +kernel, by decide +kernel, by decide +kernel, by decide +kernel, List.mem_of_getElem? (i := 323) (by decide +kernel), List.mem_of_getElem? (i := 32) (by decide +kernel)⟩
def mX1_takeAnswer : MD := (RX1, cX1_takeAnswer, 4, none, "takeAnswer", { frames := 5, cells := 0, slots := 0, locals := 115 }, fun _ => True)
theorem iX1_takeAnswer : isM yX1_takeAnswer mX1_takeAnswer 1 := ⟨rfl, rfl, by decide +kernel, by decide +kernel, by decide +kernel, by decide +kernel, List.mem_of_getElem? (i := 413) (by decide +kernel), List.mem_of_getElem? (i := 35) (by decide +kernel)⟩
def mX4_init : MD := (RX4, cX4_init, 1, none, "<init>", { frames := 1, cells := 0, slots := 0, locals := 40 }, fun _ => True)
theorem iX4_init : isM yX4_init mX4_init 0 := ⟨rfl, rfl, by decide +kernel, by decide +kernel, by decide +kernel, by decide +kernel, List.mem_of_getElem? (i := 179) (by decide +kernel), List.mem_of_getElem? (i := 33) (by decide +kernel)⟩
def mX4_put : MD := (RX4, cX4_put, 7, none, "put", { frames := 0, cells := 0, slots := 0, locals := 0 }, fun _ => True)
theorem iX4_put : isM yX4_put mX4_put 3 := ⟨rfl, rfl, by decide +kernel, by decide +kernel, by decide +kernel, by decide +kernel, List.mem_of_getElem? (i := 200) (by decide +kernel), List.mem_of_getElem? (i := 33) (by decide +kernel)⟩
def mX2_hear : MD := (RX2, cX2_hear, 8, none, "hear", { frames := 2, cells := 1, slots := 4, locals := 60 }, fun _ => True)
theorem iX2_hear : isM yX2_hear mX2_hear 4 := ⟨rfl, rfl, by decide +kernel, by decide +kernel, by decide +kernel, by decide +kernel, List.mem_of_getElem? (i := 425) (by decide +kernel), List.mem_of_getElem? (i := 32) (by decide +kernel)⟩
def mX1_bringBack : MD := (RX1, cX1_bringBack, 5, none, "bringBack", { frames := 3, cells := 1, slots := 4, locals := 87 }, fun _ => True)
theorem iX1_bringBack : isM yX1_bringBack mX1_bringBack 1 := ⟨rfl, rfl, by decide +kernel, by decide +kernel, by decide +kernel, by decide +kernel, List.mem_of_getElem? (i := 419) (by decide +kernel), List.mem_of_getElem? (i := 35) (by decide +kernel)⟩
def mX2_init : MD := (RX2, cX2_init, 7, none, "<init>", { frames := 2, cells := 2, slots := 14, locals := 60 }, fun _ => True)
theorem iX2_init : isM yX2_init mX2_init 5 := ⟨rfl, rfl, by decide +kernel, by decide +kernel, by decide +kernel, by decide +kernel, List.mem_of_getElem? (i := 173) (by decide +kernel), List.mem_of_getElem? (i := 32) (by decide +kernel)⟩
def mX2_holds : MD := (RX2, cX2_holds, 3, some .boolean, "holds", { frames := 5, cells := 0, slots := 0, locals := 115 }, fun _ => True)
theorem iX2_holds : isM yX2_holds mX2_holds 1 := ⟨rfl, rfl, by decide +kernel, by decide +kernel, by decide +kernel, by decide +kernel, List.mem_of_getElem? (i := 337) (by decide +kernel), List.mem_of_getElem? (i := 32) (by decide +kernel)⟩
def mX2_spanOf : MD := (RX2, cX2_spanOf, 3, some (.object "ClockCouncil$Span"), "spanOf", { frames := 0, cells := 0, slots := 0, locals := 0 }, fun _ => True)
theorem iX2_spanOf : isM yX2_spanOf mX2_spanOf 1 := ⟨rfl, rfl, by decide +kernel, by decide +kernel, by decide +kernel, by decide +kernel, List.mem_of_getElem? (i := 351) (by decide +kernel), List.mem_of_getElem? (i := 32) (by decide +kernel)⟩
def mX2_hasHeardOf : MD := (RX2, cX2_hasHeardOf, 2, some .boolean, "hasHeardOf", { frames := 1, cells := 0, slots := 0, locals := 22 }, fun _ => True)
theorem iX2_hasHeardOf : isM yX2_hasHeardOf mX2_hasHeardOf 1 := ⟨rfl, rfl, by decide +kernel, by decide +kernel, by decide +kernel, by decide +kernel, List.mem_of_getElem? (i := 347) (by decide +kernel), List.mem_of_getElem? (i := 32) (by decide +kernel)⟩
def mX2_heardLowAt : MD := (RX2, cX2_heardLowAt, 5, some .long, "heardLowAt", { frames := 4, cells := 0, slots := 0, locals := 93 }, fun _ => True)
theorem iX2_heardLowAt : isM yX2_heardLowAt mX2_heardLowAt 2 := ⟨rfl, rfl, by decide +kernel, by decide +kernel, by decide +kernel, by decide +kernel, List.mem_of_getElem? (i := 447) (by decide +kernel), List.mem_of_getElem? (i := 32) (by decide +kernel)⟩
def mX2_heardHighAt : MD := (RX2, cX2_heardHighAt, 5, some .long, "heardHighAt", { frames := 4, cells := 0, slots := 0, locals := 93 }, fun _ => True)
theorem iX2_heardHighAt : isM yX2_heardHighAt mX2_heardHighAt 2 := ⟨rfl, rfl, by decide +kernel, by decide +kernel, by decide +kernel, by decide +kernel, List.mem_of_getElem? (i := 452) (by decide +kernel), List.mem_of_getElem? (i := 32) (by decide +kernel)⟩
def mX2_howManyHeard : MD := (RX2, cX2_howManyHeard, 3, some .int, "howManyHeard", { frames := 2, cells := 0, slots := 0, locals := 43 }, fun _ => True)
theorem iX2_howManyHeard : isM yX2_howManyHeard mX2_howManyHeard 0 := ⟨rfl, rfl, by decide +kernel, by decide +kernel, by decide +kernel, by decide +kernel, List.mem_of_getElem? (i := 343) (by decide +kernel), List.mem_of_getElem? (i := 32) (by decide +kernel)⟩
def mX2_forgetHeard : MD := (RX2, cX2_forgetHeard, 2, none, "forgetHeard", { frames := 0, cells := 0, slots := 0, locals := 0 }, fun _ => True)
theorem iX2_forgetHeard : isM yX2_forgetHeard mX2_forgetHeard 0 := ⟨rfl, rfl, by decide +kernel, by decide +kernel, by decide +kernel, by decide +kernel, List.mem_of_getElem? (i := 510) (by decide +kernel), List.mem_of_getElem? (i := 32) (by decide +kernel)⟩
def mX3_init : MD := (RX3, cX3_init, 1, none, "<init>", { frames := 1, cells := 9, slots := 330, locals := 40 }, fun _ => True)
theorem iX3_init : isM yX3_init mX3_init 0 := ⟨rfl, rfl, by decide +kernel, by decide +kernel, by decide +kernel, by decide +kernel, List.mem_of_getElem? (i := 78) (by decide +kernel), List.mem_of_getElem? (i := 30) (by decide +kernel)⟩
def mX3_hasEvent : MD := (RX3, cX3_hasEvent, 2, some .boolean, "hasEvent", { frames := 0, cells := 0, slots := 0, locals := 0 }, fun _ => True)
theorem iX3_hasEvent : isM yX3_hasEvent mX3_hasEvent 1 := ⟨rfl, rfl, by decide +kernel, by decide +kernel, by decide +kernel, by decide +kernel, List.mem_of_getElem? (i := 588) (by decide +kernel), List.mem_of_getElem? (i := 30) (by decide +kernel)⟩
def mX3_addEvent : MD := (RX3, cX3_addEvent, 5, some .long, "addEvent", { frames := 0, cells := 0, slots := 0, locals := 0 }, fun _ => True)
theorem iX3_addEvent : isM yX3_addEvent mX3_addEvent 2 := ⟨rfl, rfl, by decide +kernel, by decide +kernel, by decide +kernel, by decide +kernel, List.mem_of_getElem? (i := 579) (by decide +kernel), List.mem_of_getElem? (i := 30) (by decide +kernel)⟩
def mX3_addLink : MD := (RX3, cX3_addLink, 3, some .long, "addLink", { frames := 1, cells := 0, slots := 0, locals := 21 }, fun _ => True)
theorem iX3_addLink : isM yX3_addLink mX3_addLink 2 := ⟨rfl, rfl, by decide +kernel, by decide +kernel, by decide +kernel, by decide +kernel, List.mem_of_getElem? (i := 592) (by decide +kernel), List.mem_of_getElem? (i := 30) (by decide +kernel)⟩
def mX3_raiseOnce : MD := (RX3, cX3_raiseOnce, 3, some .boolean, "raiseOnce", { frames := 0, cells := 0, slots := 0, locals := 0 }, fun _ => True)
theorem iX3_raiseOnce : isM yX3_raiseOnce mX3_raiseOnce 0 := ⟨rfl, rfl, by decide +kernel, by decide +kernel, by decide +kernel, by decide +kernel, List.mem_of_getElem? (i := 609) (by decide +kernel), List.mem_of_getElem? (i := 30) (by decide +kernel)⟩
def mX3_findEarliest : MD := (RX3, cX3_findEarliest, 3, some .boolean, "findEarliest", { frames := 1, cells := 0, slots := 0, locals := 22 }, fun _ => True)
theorem iX3_findEarliest : isM yX3_findEarliest mX3_findEarliest 0 := ⟨rfl, rfl, by decide +kernel, by decide +kernel, by decide +kernel, by decide +kernel, List.mem_of_getElem? (i := 605) (by decide +kernel), List.mem_of_getElem? (i := 30) (by decide +kernel)⟩
def mX3_measureTo : MD := (RX3, cX3_measureTo, 6, none, "measureTo", { frames := 0, cells := 0, slots := 0, locals := 0 }, fun _ => True)
theorem iX3_measureTo : isM yX3_measureTo mX3_measureTo 1 := ⟨rfl, rfl, by decide +kernel, by decide +kernel, by decide +kernel, by decide +kernel, List.mem_of_getElem? (i := 618) (by decide +kernel), List.mem_of_getElem? (i := 30) (by decide +kernel)⟩
def mX3_nearestAfter : MD := (RX3, cX3_nearestAfter, 5, some .int, "nearestAfter", { frames := 0, cells := 0, slots := 0, locals := 0 }, fun _ => True)
theorem iX3_nearestAfter : isM yX3_nearestAfter mX3_nearestAfter 1 := ⟨rfl, rfl, by decide +kernel, by decide +kernel, by decide +kernel, by decide +kernel, List.mem_of_getElem? (i := 622) (by decide +kernel), List.mem_of_getElem? (i := 30) (by decide +kernel)⟩
def mX3_findRing : MD := (RX3, cX3_findRing, 4, none, "findRing", { frames := 1, cells := 0, slots := 0, locals := 25 }, fun _ => True)
theorem iX3_findRing : isM yX3_findRing mX3_findRing 0 := ⟨rfl, rfl, by decide +kernel, by decide +kernel, by decide +kernel, by decide +kernel, List.mem_of_getElem? (i := 614) (by decide +kernel), List.mem_of_getElem? (i := 30) (by decide +kernel)⟩
def mJ9_max_f86c9 : MD := (RJ9, cJ9_max_f86c9, 4, some .long, "max", { frames := 0, cells := 0, slots := 0, locals := 0 }, fun _ => True)
theorem iJ9_max_f86c9 : isM yJ9_max_f86c9 mJ9_max_f86c9 2 := ⟨rfl, rfl, by decide +kernel, by decide +kernel, by decide +kernel, by decide +kernel, List.mem_of_getElem? (i := 518) (by decide +kernel), List.mem_of_getElem? (i := 34) (by decide +kernel)⟩
def mX3_findWidening : MD := (RX3, cX3_findWidening, 2, none, "findWidening", { frames := 2, cells := 0, slots := 0, locals := 48 }, fun _ => True)
theorem iX3_findWidening : isM yX3_findWidening mX3_findWidening 0 := ⟨rfl, rfl, by decide +kernel, by decide +kernel, by decide +kernel, by decide +kernel, List.mem_of_getElem? (i := 626) (by decide +kernel), List.mem_of_getElem? (i := 30) (by decide +kernel)⟩
def mX3_rank : MD := (RX3, cX3_rank, 3, none, "rank", { frames := 0, cells := 0, slots := 0, locals := 0 }, fun _ => True)
theorem iX3_rank : isM yX3_rank mX3_rank 0 := ⟨rfl, rfl, by decide +kernel, by decide +kernel, by decide +kernel, by decide +kernel, List.mem_of_getElem? (i := 633) (by decide +kernel), List.mem_of_getElem? (i := 30) (by decide +kernel)⟩
def mX3_settle : MD := (RX3, cX3_settle, 1, none, "settle", { frames := 3, cells := 0, slots := 0, locals := 69 }, fun _ => True)
theorem iX3_settle : isM yX3_settle mX3_settle 0 := ⟨rfl, rfl, by decide +kernel, by decide +kernel, by decide +kernel, by decide +kernel, List.mem_of_getElem? (i := 601) (by decide +kernel), List.mem_of_getElem? (i := 30) (by decide +kernel)⟩
def mX5_init : MD := (RX5, cX5_init, 7, none, "<init>", { frames := 1, cells := 0, slots := 0, locals := 40 }, fun _ => True)
theorem iX5_init : isM yX5_init mX5_init 4 := ⟨rfl, rfl, by decide +kernel, by decide +kernel, by decide +kernel, by decide +kernel, List.mem_of_getElem? (i := 529) (by decide +kernel), List.mem_of_getElem? (i := 36) (by decide +kernel)⟩
def mX6_init : MD := (RX6, cX6_init, 1, none, "<init>", { frames := 2, cells := 17, slots := 688, locals := 60 }, fun _ => True)
theorem iX6_init : isM yX6_init mX6_init 0 := ⟨rfl, rfl, by decide +kernel, by decide +kernel, by decide +kernel, by decide +kernel, List.mem_of_getElem? (i := 41) (by decide +kernel), List.mem_of_getElem? (i := 28) (by decide +kernel)⟩
def mX6_go : MD := (RX6, cX6_go, 2, some .long, "go", { frames := 0, cells := 0, slots := 0, locals := 0 }, fun _ => True)
theorem iX6_go : isM yX6_go mX6_go 1 := ⟨rfl, rfl, by decide +kernel, by decide +kernel, by decide +kernel, by decide +kernel, List.mem_of_getElem? (i := 161) (by decide +kernel), List.mem_of_getElem? (i := 28) (by decide +kernel)⟩
def mX6_member : MD := (RX6, cX6_member, 4, some .long, "member", { frames := 3, cells := 3, slots := 30, locals := 86 }, fun _ => True)
theorem iX6_member : isM yX6_member mX6_member 3 := ⟨rfl, rfl, by decide +kernel, by decide +kernel, by decide +kernel, by decide +kernel, List.mem_of_getElem? (i := 168) (by decide +kernel), List.mem_of_getElem? (i := 28) (by decide +kernel)⟩
def mX6_findMember : MD := (RX6, cX6_findMember, 2, some (.object "ClockCouncil$Member"), "findMember", { frames := 0, cells := 0, slots := 0, locals := 0 }, fun _ => True)
theorem iX6_findMember : isM yX6_findMember mX6_findMember 1 := ⟨rfl, rfl, by decide +kernel, by decide +kernel, by decide +kernel, by decide +kernel, List.mem_of_getElem? (i := 271) (by decide +kernel), List.mem_of_getElem? (i := 28) (by decide +kernel)⟩
def mJ9_abs_067f4 : MD := (RJ9, cJ9_abs_067f4, 2, some .long, "abs", { frames := 0, cells := 0, slots := 0, locals := 0 }, fun _ => True)
theorem iJ9_abs_067f4 : isM yJ9_abs_067f4 mJ9_abs_067f4 1 := ⟨rfl, rfl, by decide +kernel, by decide +kernel, by decide +kernel, by decide +kernel, List.mem_of_getElem? (i := 274) (by decide +kernel), List.mem_of_getElem? (i := 34) (by decide +kernel)⟩
def mX6_asBit : MD := (RX6, cX6_asBit, 1, some .long, "asBit", { frames := 0, cells := 0, slots := 0, locals := 0 }, fun _ => True)
theorem iX6_asBit : isM yX6_asBit mX6_asBit 1 := ⟨rfl, rfl, by decide +kernel, by decide +kernel, by decide +kernel, by decide +kernel, List.mem_of_getElem? (i := 278) (by decide +kernel), List.mem_of_getElem? (i := 28) (by decide +kernel)⟩
def mX6_rate : MD := (RX6, cX6_rate, 7, some .long, "rate", { frames := 1, cells := 0, slots := 0, locals := 21 }, fun _ => True)
theorem iX6_rate : isM yX6_rate mX6_rate 3 := ⟨rfl, rfl, by decide +kernel, by decide +kernel, by decide +kernel, by decide +kernel, List.mem_of_getElem? (i := 267) (by decide +kernel), List.mem_of_getElem? (i := 28) (by decide +kernel)⟩
def mX6_lie : MD := (RX6, cX6_lie, 7, some .long, "lie", { frames := 1, cells := 0, slots := 0, locals := 21 }, fun _ => True)
theorem iX6_lie : isM yX6_lie mX6_lie 3 := ⟨rfl, rfl, by decide +kernel, by decide +kernel, by decide +kernel, by decide +kernel, List.mem_of_getElem? (i := 282) (by decide +kernel), List.mem_of_getElem? (i := 28) (by decide +kernel)⟩
def mX6_rest : MD := (RX6, cX6_rest, 5, some .long, "rest", { frames := 1, cells := 0, slots := 0, locals := 21 }, fun _ => True)
theorem iX6_rest : isM yX6_rest mX6_rest 2 := ⟨rfl, rfl, by decide +kernel, by decide +kernel, by decide +kernel, by decide +kernel, List.mem_of_getElem? (i := 288) (by decide +kernel), List.mem_of_getElem? (i := 28) (by decide +kernel)⟩
def mX6_counter : MD := (RX6, cX6_counter, 3, some .long, "counter", { frames := 3, cells := 0, slots := 0, locals := 70 }, fun _ => True)
theorem iX6_counter : isM yX6_counter mX6_counter 1 := ⟨rfl, rfl, by decide +kernel, by decide +kernel, by decide +kernel, by decide +kernel, List.mem_of_getElem? (i := 292) (by decide +kernel), List.mem_of_getElem? (i := 28) (by decide +kernel)⟩
def mX6_of : MD := (RX6, cX6_of, 4, some .long, "of", { frames := 6, cells := 0, slots := 0, locals := 137 }, fun _ => True)
theorem iX6_of : isM yX6_of mX6_of 2 := ⟨rfl, rfl, by decide +kernel, by decide +kernel, by decide +kernel, by decide +kernel, List.mem_of_getElem? (i := 306) (by decide +kernel), List.mem_of_getElem? (i := 28) (by decide +kernel)⟩
def mX6_addLetter : MD := (RX6, cX6_addLetter, 2, some .long, "addLetter", { frames := 0, cells := 0, slots := 0, locals := 0 }, fun _ => True)
theorem iX6_addLetter : isM yX6_addLetter mX6_addLetter 1 := ⟨rfl, rfl, by decide +kernel, by decide +kernel, by decide +kernel, by decide +kernel, List.mem_of_getElem? (i := 393) (by decide +kernel), List.mem_of_getElem? (i := 28) (by decide +kernel)⟩
def mX6_ask : MD := (RX6, cX6_ask, 5, some .long, "ask", { frames := 3, cells := 1, slots := 7, locals := 70 }, fun _ => True)
theorem iX6_ask : isM yX6_ask mX6_ask 2 := ⟨rfl, rfl, by decide +kernel, by decide +kernel, by decide +kernel, by decide +kernel, List.mem_of_getElem? (i := 355) (by decide +kernel), List.mem_of_getElem? (i := 28) (by decide +kernel)⟩
def mX6_findLetter : MD := (RX6, cX6_findLetter, 2, some (.object "ClockCouncil$Letter"), "findLetter", { frames := 0, cells := 0, slots := 0, locals := 0 }, fun _ => True)
theorem iX6_findLetter : isM yX6_findLetter mX6_findLetter 1 := ⟨rfl, rfl, by decide +kernel, by decide +kernel, by decide +kernel, by decide +kernel, List.mem_of_getElem? (i := 405) (by decide +kernel), List.mem_of_getElem? (i := 28) (by decide +kernel)⟩
def mX6_findUnderWay : MD := (RX6, cX6_findUnderWay, 3, some (.object "ClockCouncil$Letter"), "findUnderWay", { frames := 1, cells := 0, slots := 0, locals := 21 }, fun _ => True)
theorem iX6_findUnderWay : isM yX6_findUnderWay mX6_findUnderWay 1 := ⟨rfl, rfl, by decide +kernel, by decide +kernel, by decide +kernel, by decide +kernel, List.mem_of_getElem? (i := 401) (by decide +kernel), List.mem_of_getElem? (i := 28) (by decide +kernel)⟩
def mX6_deliver : MD := (RX6, cX6_deliver, 4, some .long, "deliver", { frames := 6, cells := 1, slots := 4, locals := 138 }, fun _ => True)
theorem iX6_deliver : isM yX6_deliver mX6_deliver 1 := ⟨rfl, rfl, by decide +kernel, by decide +kernel, by decide +kernel, by decide +kernel, List.mem_of_getElem? (i := 397) (by decide +kernel), List.mem_of_getElem? (i := 28) (by decide +kernel)⟩
def mX6_lose : MD := (RX6, cX6_lose, 3, some .long, "lose", { frames := 2, cells := 0, slots := 0, locals := 43 }, fun _ => True)
theorem iX6_lose : isM yX6_lose mX6_lose 1 := ⟨rfl, rfl, by decide +kernel, by decide +kernel, by decide +kernel, by decide +kernel, List.mem_of_getElem? (i := 430) (by decide +kernel), List.mem_of_getElem? (i := 28) (by decide +kernel)⟩
def mX6_twice : MD := (RX6, cX6_twice, 4, some .long, "twice", { frames := 2, cells := 1, slots := 7, locals := 64 }, fun _ => True)
theorem iX6_twice : isM yX6_twice mX6_twice 1 := ⟨rfl, rfl, by decide +kernel, by decide +kernel, by decide +kernel, by decide +kernel, List.mem_of_getElem? (i := 434) (by decide +kernel), List.mem_of_getElem? (i := 28) (by decide +kernel)⟩
def mX6_letter : MD := (RX6, cX6_letter, 4, some .long, "letter", { frames := 1, cells := 0, slots := 0, locals := 21 }, fun _ => True)
theorem iX6_letter : isM yX6_letter mX6_letter 2 := ⟨rfl, rfl, by decide +kernel, by decide +kernel, by decide +kernel, by decide +kernel, List.mem_of_getElem? (i := 438) (by decide +kernel), List.mem_of_getElem? (i := 28) (by decide +kernel)⟩
def mX6_heard : MD := (RX6, cX6_heard, 5, some .long, "heard", { frames := 5, cells := 0, slots := 0, locals := 117 }, fun _ => True)
theorem iX6_heard : isM yX6_heard mX6_heard 3 := ⟨rfl, rfl, by decide +kernel, by decide +kernel, by decide +kernel, by decide +kernel, List.mem_of_getElem? (i := 442) (by decide +kernel), List.mem_of_getElem? (i := 28) (by decide +kernel)⟩
def mX6_gather : MD := (RX6, cX6_gather, 3, none, "gather", { frames := 5, cells := 0, slots := 0, locals := 117 }, fun _ => True)
theorem iX6_gather : isM yX6_gather mX6_gather 1 := ⟨rfl, rfl, by decide +kernel, by decide +kernel, by decide +kernel, by decide +kernel, List.mem_of_getElem? (i := 460) (by decide +kernel), List.mem_of_getElem? (i := 28) (by decide +kernel)⟩
def mX6_votes : MD := (RX6, cX6_votes, 5, some .long, "votes", { frames := 6, cells := 0, slots := 0, locals := 139 }, fun _ => True)
theorem iX6_votes : isM yX6_votes mX6_votes 2 := ⟨rfl, rfl, by decide +kernel, by decide +kernel, by decide +kernel, by decide +kernel, List.mem_of_getElem? (i := 456) (by decide +kernel), List.mem_of_getElem? (i := 28) (by decide +kernel)⟩
def mX6_council : MD := (RX6, cX6_council, 10, some .long, "council", { frames := 6, cells := 0, slots := 0, locals := 139 }, fun _ => True)
theorem iX6_council : isM yX6_council mX6_council 3 := ⟨rfl, rfl, by decide +kernel, by decide +kernel, by decide +kernel, by decide +kernel, List.mem_of_getElem? (i := 476) (by decide +kernel), List.mem_of_getElem? (i := 28) (by decide +kernel)⟩
def mX6_noteMeeting : MD := (RX6, cX6_noteMeeting, 4, none, "noteMeeting", { frames := 1, cells := 0, slots := 0, locals := 21 }, fun _ => True)
theorem iX6_noteMeeting : isM yX6_noteMeeting mX6_noteMeeting 1 := ⟨rfl, rfl, by decide +kernel, by decide +kernel, by decide +kernel, by decide +kernel, List.mem_of_getElem? (i := 506) (by decide +kernel), List.mem_of_getElem? (i := 28) (by decide +kernel)⟩
def mX6_meet : MD := (RX6, cX6_meet, 9, some .long, "meet", { frames := 6, cells := 0, slots := 0, locals := 139 }, fun _ => True)
theorem iX6_meet : isM yX6_meet mX6_meet 2 := ⟨rfl, rfl, by decide +kernel, by decide +kernel, by decide +kernel, by decide +kernel, List.mem_of_getElem? (i := 502) (by decide +kernel), List.mem_of_getElem? (i := 28) (by decide +kernel)⟩
def mJ9_min_f86c9 : MD := (RJ9, cJ9_min_f86c9, 4, some .long, "min", { frames := 0, cells := 0, slots := 0, locals := 0 }, fun _ => True)
theorem iJ9_min_f86c9 : isM yJ9_min_f86c9 mJ9_min_f86c9 2 := ⟨rfl, rfl, by decide +kernel, by decide +kernel, by decide +kernel, by decide +kernel, List.mem_of_getElem? (i := 521) (by decide +kernel), List.mem_of_getElem? (i := 34) (by decide +kernel)⟩
def mX6_lead : MD := (RX6, cX6_lead, 14, some .long, "lead", { frames := 5, cells := 0, slots := 0, locals := 115 }, fun _ => True)
theorem iX6_lead : isM yX6_lead mX6_lead 2 := ⟨rfl, rfl, by decide +kernel, by decide +kernel, by decide +kernel, by decide +kernel, List.mem_of_getElem? (i := 515) (by decide +kernel), List.mem_of_getElem? (i := 28) (by decide +kernel)⟩
def mX6_stamp : MD := (RX6, cX6_stamp, 3, some .long, "stamp", { frames := 6, cells := 1, slots := 4, locals := 137 }, fun _ => True)
theorem iX6_stamp : isM yX6_stamp mX6_stamp 1 := ⟨rfl, rfl, by decide +kernel, by decide +kernel, by decide +kernel, by decide +kernel, List.mem_of_getElem? (i := 525) (by decide +kernel), List.mem_of_getElem? (i := 28) (by decide +kernel)⟩
def mX6_findStamp : MD := (RX6, cX6_findStamp, 2, some (.object "ClockCouncil$Stamp"), "findStamp", { frames := 0, cells := 0, slots := 0, locals := 0 }, fun _ => True)
theorem iX6_findStamp : isM yX6_findStamp mX6_findStamp 1 := ⟨rfl, rfl, by decide +kernel, by decide +kernel, by decide +kernel, by decide +kernel, List.mem_of_getElem? (i := 555) (by decide +kernel), List.mem_of_getElem? (i := 28) (by decide +kernel)⟩
def mX6_given : MD := (RX6, cX6_given, 4, some .long, "given", { frames := 1, cells := 0, slots := 0, locals := 21 }, fun _ => True)
theorem iX6_given : isM yX6_given mX6_given 2 := ⟨rfl, rfl, by decide +kernel, by decide +kernel, by decide +kernel, by decide +kernel, List.mem_of_getElem? (i := 551) (by decide +kernel), List.mem_of_getElem? (i := 28) (by decide +kernel)⟩
def mX6_ahead : MD := (RX6, cX6_ahead, 5, some .long, "ahead", { frames := 1, cells := 0, slots := 0, locals := 21 }, fun _ => True)
theorem iX6_ahead : isM yX6_ahead mX6_ahead 2 := ⟨rfl, rfl, by decide +kernel, by decide +kernel, by decide +kernel, by decide +kernel, List.mem_of_getElem? (i := 559) (by decide +kernel), List.mem_of_getElem? (i := 28) (by decide +kernel)⟩
def mX6_latestStamped : MD := (RX6, cX6_latestStamped, 5, some .long, "latestStamped", { frames := 1, cells := 0, slots := 0, locals := 23 }, fun _ => True)
theorem iX6_latestStamped : isM yX6_latestStamped mX6_latestStamped 0 := ⟨rfl, rfl, by decide +kernel, by decide +kernel, by decide +kernel, by decide +kernel, List.mem_of_getElem? (i := 568) (by decide +kernel), List.mem_of_getElem? (i := 28) (by decide +kernel)⟩
def mX6_countFor : MD := (RX6, cX6_countFor, 3, some .long, "countFor", { frames := 2, cells := 0, slots := 0, locals := 48 }, fun _ => True)
theorem iX6_countFor : isM yX6_countFor mX6_countFor 2 := ⟨rfl, rfl, by decide +kernel, by decide +kernel, by decide +kernel, by decide +kernel, List.mem_of_getElem? (i := 571) (by decide +kernel), List.mem_of_getElem? (i := 28) (by decide +kernel)⟩
def mX6_wait : MD := (RX6, cX6_wait, 7, some .long, "wait", { frames := 5, cells := 0, slots := 0, locals := 115 }, fun _ => True)
theorem iX6_wait : isM yX6_wait mX6_wait 1 := ⟨rfl, rfl, by decide +kernel, by decide +kernel, by decide +kernel, by decide +kernel, List.mem_of_getElem? (i := 564) (by decide +kernel), List.mem_of_getElem? (i := 28) (by decide +kernel)⟩
def mX6_event : MD := (RX6, cX6_event, 3, some .long, "event", { frames := 1, cells := 0, slots := 0, locals := 24 }, fun _ => True)
theorem iX6_event : isM yX6_event mX6_event 1 := ⟨rfl, rfl, by decide +kernel, by decide +kernel, by decide +kernel, by decide +kernel, List.mem_of_getElem? (i := 575) (by decide +kernel), List.mem_of_getElem? (i := 28) (by decide +kernel)⟩
def mX6_link : MD := (RX6, cX6_link, 3, some .long, "link", { frames := 2, cells := 0, slots := 0, locals := 43 }, fun _ => True)
theorem iX6_link : isM yX6_link mX6_link 2 := ⟨rfl, rfl, by decide +kernel, by decide +kernel, by decide +kernel, by decide +kernel, List.mem_of_getElem? (i := 584) (by decide +kernel), List.mem_of_getElem? (i := 28) (by decide +kernel)⟩
def mX6_mend : MD := (RX6, cX6_mend, 1, some .long, "mend", { frames := 4, cells := 0, slots := 0, locals := 89 }, fun _ => True)
theorem iX6_mend : isM yX6_mend mX6_mend 0 := ⟨rfl, rfl, by decide +kernel, by decide +kernel, by decide +kernel, by decide +kernel, List.mem_of_getElem? (i := 597) (by decide +kernel), List.mem_of_getElem? (i := 28) (by decide +kernel)⟩
def mX6_order : MD := (RX6, cX6_order, 2, some .long, "order", { frames := 4, cells := 0, slots := 0, locals := 89 }, fun _ => True)
theorem iX6_order : isM yX6_order mX6_order 1 := ⟨rfl, rfl, by decide +kernel, by decide +kernel, by decide +kernel, by decide +kernel, List.mem_of_getElem? (i := 637) (by decide +kernel), List.mem_of_getElem? (i := 28) (by decide +kernel)⟩
def mX6_time : MD := (RX6, cX6_time, 2, some .long, "time", { frames := 4, cells := 0, slots := 0, locals := 89 }, fun _ => True)
theorem iX6_time : isM yX6_time mX6_time 1 := ⟨rfl, rfl, by decide +kernel, by decide +kernel, by decide +kernel, by decide +kernel, List.mem_of_getElem? (i := 641) (by decide +kernel), List.mem_of_getElem? (i := 28) (by decide +kernel)⟩
def mX6_ring : MD := (RX6, cX6_ring, 2, some .long, "ring", { frames := 4, cells := 0, slots := 0, locals := 89 }, fun _ => True)
theorem iX6_ring : isM yX6_ring mX6_ring 1 := ⟨rfl, rfl, by decide +kernel, by decide +kernel, by decide +kernel, by decide +kernel, List.mem_of_getElem? (i := 645) (by decide +kernel), List.mem_of_getElem? (i := 28) (by decide +kernel)⟩
def mX6_howManyUnderWay : MD := (RX6, cX6_howManyUnderWay, 3, some .int, "howManyUnderWay", { frames := 2, cells := 0, slots := 0, locals := 43 }, fun _ => True)
theorem iX6_howManyUnderWay : isM yX6_howManyUnderWay mX6_howManyUnderWay 0 := ⟨rfl, rfl, by decide +kernel, by decide +kernel, by decide +kernel, by decide +kernel, List.mem_of_getElem? (i := 653) (by decide +kernel), List.mem_of_getElem? (i := 28) (by decide +kernel)⟩
def mX6_count : MD := (RX6, cX6_count, 2, some .long, "count", { frames := 3, cells := 0, slots := 0, locals := 65 }, fun _ => True)
theorem iX6_count : isM yX6_count mX6_count 1 := ⟨rfl, rfl, by decide +kernel, by decide +kernel, by decide +kernel, by decide +kernel, List.mem_of_getElem? (i := 649) (by decide +kernel), List.mem_of_getElem? (i := 28) (by decide +kernel)⟩
def mX7_init : MD := (RX7, cX7_init, 1, none, "<init>", { frames := 1, cells := 41, slots := 4330, locals := 40 }, fun _ => True)
theorem iX7_init : isM yX7_init mX7_init 0 := ⟨rfl, rfl, by decide +kernel, by decide +kernel, by decide +kernel, by decide +kernel, List.mem_of_getElem? (i := 658) (by decide +kernel), List.mem_of_getElem? (i := 31) (by decide +kernel)⟩
def mX7_floor : MD := (RX7, cX7_floor, 6, some .long, "floor", { frames := 0, cells := 0, slots := 0, locals := 0 }, fun _ => True)
theorem iX7_floor : isM yX7_floor mX7_floor 2 := ⟨rfl, rfl, by decide +kernel, by decide +kernel, by decide +kernel, by decide +kernel, List.mem_of_getElem? (i := 864) (by decide +kernel), List.mem_of_getElem? (i := 31) (by decide +kernel)⟩
def mX7_ceil : MD := (RX7, cX7_ceil, 4, some .long, "ceil", { frames := 1, cells := 0, slots := 0, locals := 25 }, fun _ => True)
theorem iX7_ceil : isM yX7_ceil mX7_ceil 2 := ⟨rfl, rfl, by decide +kernel, by decide +kernel, by decide +kernel, by decide +kernel, List.mem_of_getElem? (i := 887) (by decide +kernel), List.mem_of_getElem? (i := 31) (by decide +kernel)⟩
def mX7_in : MD := (RX7, cX7_in, 6, some .boolean, "in", { frames := 0, cells := 0, slots := 0, locals := 0 }, fun _ => True)
theorem iX7_in : isM yX7_in mX7_in 3 := ⟨rfl, rfl, by decide +kernel, by decide +kernel, by decide +kernel, by decide +kernel, List.mem_of_getElem? (i := 825) (by decide +kernel), List.mem_of_getElem? (i := 31) (by decide +kernel)⟩
def mX7_isMember : MD := (RX7, cX7_isMember, 2, some .boolean, "isMember", { frames := 1, cells := 0, slots := 0, locals := 25 }, fun _ => True)
theorem iX7_isMember : isM yX7_isMember mX7_isMember 1 := ⟨rfl, rfl, by decide +kernel, by decide +kernel, by decide +kernel, by decide +kernel, List.mem_of_getElem? (i := 842) (by decide +kernel), List.mem_of_getElem? (i := 31) (by decide +kernel)⟩
def mX7_go : MD := (RX7, cX7_go, 2, some .long, "go", { frames := 1, cells := 0, slots := 0, locals := 25 }, fun _ => True)
theorem iX7_go : isM yX7_go mX7_go 1 := ⟨rfl, rfl, by decide +kernel, by decide +kernel, by decide +kernel, by decide +kernel, List.mem_of_getElem? (i := 821) (by decide +kernel), List.mem_of_getElem? (i := 31) (by decide +kernel)⟩
def mX7_member : MD := (RX7, cX7_member, 5, some .long, "member", { frames := 1, cells := 0, slots := 0, locals := 25 }, fun _ => True)
theorem iX7_member : isM yX7_member mX7_member 3 := ⟨rfl, rfl, by decide +kernel, by decide +kernel, by decide +kernel, by decide +kernel, List.mem_of_getElem? (i := 831) (by decide +kernel), List.mem_of_getElem? (i := 31) (by decide +kernel)⟩
def mX7_rate : MD := (RX7, cX7_rate, 6, some .long, "rate", { frames := 2, cells := 0, slots := 0, locals := 46 }, fun _ => True)
theorem iX7_rate : isM yX7_rate mX7_rate 3 := ⟨rfl, rfl, by decide +kernel, by decide +kernel, by decide +kernel, by decide +kernel, List.mem_of_getElem? (i := 838) (by decide +kernel), List.mem_of_getElem? (i := 31) (by decide +kernel)⟩
def mX7_lie : MD := (RX7, cX7_lie, 6, some .long, "lie", { frames := 2, cells := 0, slots := 0, locals := 46 }, fun _ => True)
theorem iX7_lie : isM yX7_lie mX7_lie 3 := ⟨rfl, rfl, by decide +kernel, by decide +kernel, by decide +kernel, by decide +kernel, List.mem_of_getElem? (i := 847) (by decide +kernel), List.mem_of_getElem? (i := 31) (by decide +kernel)⟩
def mX7_rest : MD := (RX7, cX7_rest, 4, some .long, "rest", { frames := 2, cells := 0, slots := 0, locals := 46 }, fun _ => True)
theorem iX7_rest : isM yX7_rest mX7_rest 2 := ⟨rfl, rfl, by decide +kernel, by decide +kernel, by decide +kernel, by decide +kernel, List.mem_of_getElem? (i := 853) (by decide +kernel), List.mem_of_getElem? (i := 31) (by decide +kernel)⟩
def mX7_counterOf : MD := (RX7, cX7_counterOf, 2, some .long, "counterOf", { frames := 1, cells := 0, slots := 0, locals := 25 }, fun _ => True)
theorem iX7_counterOf : isM yX7_counterOf mX7_counterOf 1 := ⟨rfl, rfl, by decide +kernel, by decide +kernel, by decide +kernel, by decide +kernel, List.mem_of_getElem? (i := 861) (by decide +kernel), List.mem_of_getElem? (i := 31) (by decide +kernel)⟩
def mX7_counter : MD := (RX7, cX7_counter, 2, some .long, "counter", { frames := 2, cells := 0, slots := 0, locals := 46 }, fun _ => True)
theorem iX7_counter : isM yX7_counter mX7_counter 1 := ⟨rfl, rfl, by decide +kernel, by decide +kernel, by decide +kernel, by decide +kernel, List.mem_of_getElem? (i := 857) (by decide +kernel), List.mem_of_getElem? (i := 31) (by decide +kernel)⟩
def mX7_atLeast : MD := (RX7, cX7_atLeast, 4, some .long, "atLeast", { frames := 1, cells := 0, slots := 0, locals := 25 }, fun _ => True)
theorem iX7_atLeast : isM yX7_atLeast mX7_atLeast 2 := ⟨rfl, rfl, by decide +kernel, by decide +kernel, by decide +kernel, by decide +kernel, List.mem_of_getElem? (i := 876) (by decide +kernel), List.mem_of_getElem? (i := 31) (by decide +kernel)⟩
def mX7_atMost : MD := (RX7, cX7_atMost, 4, some .long, "atMost", { frames := 2, cells := 0, slots := 0, locals := 48 }, fun _ => True)
theorem iX7_atMost : isM yX7_atMost mX7_atMost 2 := ⟨rfl, rfl, by decide +kernel, by decide +kernel, by decide +kernel, by decide +kernel, List.mem_of_getElem? (i := 884) (by decide +kernel), List.mem_of_getElem? (i := 31) (by decide +kernel)⟩
def mX7_lowOf : MD := (RX7, cX7_lowOf, 2, some .long, "lowOf", { frames := 2, cells := 0, slots := 0, locals := 48 }, fun _ => True)
theorem iX7_lowOf : isM yX7_lowOf mX7_lowOf 1 := ⟨rfl, rfl, by decide +kernel, by decide +kernel, by decide +kernel, by decide +kernel, List.mem_of_getElem? (i := 872) (by decide +kernel), List.mem_of_getElem? (i := 31) (by decide +kernel)⟩
def mX7_highOf : MD := (RX7, cX7_highOf, 2, some .long, "highOf", { frames := 3, cells := 0, slots := 0, locals := 71 }, fun _ => True)
theorem iX7_highOf : isM yX7_highOf mX7_highOf 1 := ⟨rfl, rfl, by decide +kernel, by decide +kernel, by decide +kernel, by decide +kernel, List.mem_of_getElem? (i := 880) (by decide +kernel), List.mem_of_getElem? (i := 31) (by decide +kernel)⟩
def mX7_heardLowOf : MD := (RX7, cX7_heardLowOf, 3, some .long, "heardLowOf", { frames := 2, cells := 0, slots := 0, locals := 48 }, fun _ => True)
theorem iX7_heardLowOf : isM yX7_heardLowOf mX7_heardLowOf 2 := ⟨rfl, rfl, by decide +kernel, by decide +kernel, by decide +kernel, by decide +kernel, List.mem_of_getElem? (i := 924) (by decide +kernel), List.mem_of_getElem? (i := 31) (by decide +kernel)⟩
def mX7_heardHighOf : MD := (RX7, cX7_heardHighOf, 3, some .long, "heardHighOf", { frames := 3, cells := 0, slots := 0, locals := 71 }, fun _ => True)
theorem iX7_heardHighOf : isM yX7_heardHighOf mX7_heardHighOf 2 := ⟨rfl, rfl, by decide +kernel, by decide +kernel, by decide +kernel, by decide +kernel, List.mem_of_getElem? (i := 928) (by decide +kernel), List.mem_of_getElem? (i := 31) (by decide +kernel)⟩
def mX7_heardMany : MD := (RX7, cX7_heardMany, 4, some .int, "heardMany", { frames := 0, cells := 0, slots := 0, locals := 0 }, fun _ => True)
theorem iX7_heardMany : isM yX7_heardMany mX7_heardMany 1 := ⟨rfl, rfl, by decide +kernel, by decide +kernel, by decide +kernel, by decide +kernel, List.mem_of_getElem? (i := 891) (by decide +kernel), List.mem_of_getElem? (i := 31) (by decide +kernel)⟩
def mX7_of : MD := (RX7, cX7_of, 3, some .long, "of", { frames := 4, cells := 0, slots := 0, locals := 92 }, fun _ => True)
theorem iX7_of : isM yX7_of mX7_of 2 := ⟨rfl, rfl, by decide +kernel, by decide +kernel, by decide +kernel, by decide +kernel, List.mem_of_getElem? (i := 868) (by decide +kernel), List.mem_of_getElem? (i := 31) (by decide +kernel)⟩
def mX7_ask : MD := (RX7, cX7_ask, 3, some .long, "ask", { frames := 2, cells := 0, slots := 0, locals := 46 }, fun _ => True)
theorem iX7_ask : isM yX7_ask mX7_ask 2 := ⟨rfl, rfl, by decide +kernel, by decide +kernel, by decide +kernel, by decide +kernel, List.mem_of_getElem? (i := 895) (by decide +kernel), List.mem_of_getElem? (i := 31) (by decide +kernel)⟩
def mX7_isUnderWay : MD := (RX7, cX7_isUnderWay, 2, some .boolean, "isUnderWay", { frames := 1, cells := 0, slots := 0, locals := 25 }, fun _ => True)
theorem iX7_isUnderWay : isM yX7_isUnderWay mX7_isUnderWay 1 := ⟨rfl, rfl, by decide +kernel, by decide +kernel, by decide +kernel, by decide +kernel, List.mem_of_getElem? (i := 903) (by decide +kernel), List.mem_of_getElem? (i := 31) (by decide +kernel)⟩
def mX7_deliver : MD := (RX7, cX7_deliver, 5, some .long, "deliver", { frames := 4, cells := 0, slots := 0, locals := 92 }, fun _ => True)
theorem iX7_deliver : isM yX7_deliver mX7_deliver 1 := ⟨rfl, rfl, by decide +kernel, by decide +kernel, by decide +kernel, by decide +kernel, List.mem_of_getElem? (i := 899) (by decide +kernel), List.mem_of_getElem? (i := 31) (by decide +kernel)⟩
def mX7_lose : MD := (RX7, cX7_lose, 2, some .long, "lose", { frames := 2, cells := 0, slots := 0, locals := 46 }, fun _ => True)
theorem iX7_lose : isM yX7_lose mX7_lose 1 := ⟨rfl, rfl, by decide +kernel, by decide +kernel, by decide +kernel, by decide +kernel, List.mem_of_getElem? (i := 908) (by decide +kernel), List.mem_of_getElem? (i := 31) (by decide +kernel)⟩
def mX7_twice : MD := (RX7, cX7_twice, 2, some .long, "twice", { frames := 2, cells := 0, slots := 0, locals := 46 }, fun _ => True)
theorem iX7_twice : isM yX7_twice mX7_twice 1 := ⟨rfl, rfl, by decide +kernel, by decide +kernel, by decide +kernel, by decide +kernel, List.mem_of_getElem? (i := 912) (by decide +kernel), List.mem_of_getElem? (i := 31) (by decide +kernel)⟩
def mX7_letter : MD := (RX7, cX7_letter, 3, some .long, "letter", { frames := 1, cells := 0, slots := 0, locals := 25 }, fun _ => True)
theorem iX7_letter : isM yX7_letter mX7_letter 2 := ⟨rfl, rfl, by decide +kernel, by decide +kernel, by decide +kernel, by decide +kernel, List.mem_of_getElem? (i := 916) (by decide +kernel), List.mem_of_getElem? (i := 31) (by decide +kernel)⟩
def mX7_heard : MD := (RX7, cX7_heard, 4, some .long, "heard", { frames := 4, cells := 0, slots := 0, locals := 93 }, fun _ => True)
theorem iX7_heard : isM yX7_heard mX7_heard 3 := ⟨rfl, rfl, by decide +kernel, by decide +kernel, by decide +kernel, by decide +kernel, List.mem_of_getElem? (i := 920) (by decide +kernel), List.mem_of_getElem? (i := 31) (by decide +kernel)⟩
def mX7_gather : MD := (RX7, cX7_gather, 3, none, "gather", { frames := 4, cells := 0, slots := 0, locals := 93 }, fun _ => True)
theorem iX7_gather : isM yX7_gather mX7_gather 1 := ⟨rfl, rfl, by decide +kernel, by decide +kernel, by decide +kernel, by decide +kernel, List.mem_of_getElem? (i := 936) (by decide +kernel), List.mem_of_getElem? (i := 31) (by decide +kernel)⟩
def mX7_votesFor : MD := (RX7, cX7_votesFor, 5, some .int, "votesFor", { frames := 1, cells := 0, slots := 0, locals := 25 }, fun _ => True)
theorem iX7_votesFor : isM yX7_votesFor mX7_votesFor 1 := ⟨rfl, rfl, by decide +kernel, by decide +kernel, by decide +kernel, by decide +kernel, List.mem_of_getElem? (i := 940) (by decide +kernel), List.mem_of_getElem? (i := 31) (by decide +kernel)⟩
def mX7_votes : MD := (RX7, cX7_votes, 4, some .long, "votes", { frames := 5, cells := 0, slots := 0, locals := 115 }, fun _ => True)
theorem iX7_votes : isM yX7_votes mX7_votes 2 := ⟨rfl, rfl, by decide +kernel, by decide +kernel, by decide +kernel, by decide +kernel, List.mem_of_getElem? (i := 932) (by decide +kernel), List.mem_of_getElem? (i := 31) (by decide +kernel)⟩
def mX7_findCouncil : MD := (RX7, cX7_findCouncil, 7, some .boolean, "findCouncil", { frames := 2, cells := 0, slots := 0, locals := 49 }, fun _ => True)
theorem iX7_findCouncil : isM yX7_findCouncil mX7_findCouncil 1 := ⟨rfl, rfl, by decide +kernel, by decide +kernel, by decide +kernel, by decide +kernel, List.mem_of_getElem? (i := 948) (by decide +kernel), List.mem_of_getElem? (i := 31) (by decide +kernel)⟩
def mX7_council : MD := (RX7, cX7_council, 5, some .long, "council", { frames := 5, cells := 0, slots := 0, locals := 115 }, fun _ => True)
theorem iX7_council : isM yX7_council mX7_council 3 := ⟨rfl, rfl, by decide +kernel, by decide +kernel, by decide +kernel, by decide +kernel, List.mem_of_getElem? (i := 944) (by decide +kernel), List.mem_of_getElem? (i := 31) (by decide +kernel)⟩
def mX7_meet : MD := (RX7, cX7_meet, 4, some .long, "meet", { frames := 5, cells := 0, slots := 0, locals := 115 }, fun _ => True)
theorem iX7_meet : isM yX7_meet mX7_meet 2 := ⟨rfl, rfl, by decide +kernel, by decide +kernel, by decide +kernel, by decide +kernel, List.mem_of_getElem? (i := 952) (by decide +kernel), List.mem_of_getElem? (i := 31) (by decide +kernel)⟩
def mX7_lead : MD := (RX7, cX7_lead, 9, some .long, "lead", { frames := 4, cells := 0, slots := 0, locals := 92 }, fun _ => True)
theorem iX7_lead : isM yX7_lead mX7_lead 2 := ⟨rfl, rfl, by decide +kernel, by decide +kernel, by decide +kernel, by decide +kernel, List.mem_of_getElem? (i := 956) (by decide +kernel), List.mem_of_getElem? (i := 31) (by decide +kernel)⟩
def mX7_stamp : MD := (RX7, cX7_stamp, 2, some .long, "stamp", { frames := 4, cells := 0, slots := 0, locals := 92 }, fun _ => True)
theorem iX7_stamp : isM yX7_stamp mX7_stamp 1 := ⟨rfl, rfl, by decide +kernel, by decide +kernel, by decide +kernel, by decide +kernel, List.mem_of_getElem? (i := 960) (by decide +kernel), List.mem_of_getElem? (i := 31) (by decide +kernel)⟩
def mX7_isStamp : MD := (RX7, cX7_isStamp, 2, some .boolean, "isStamp", { frames := 1, cells := 0, slots := 0, locals := 25 }, fun _ => True)
theorem iX7_isStamp : isM yX7_isStamp mX7_isStamp 1 := ⟨rfl, rfl, by decide +kernel, by decide +kernel, by decide +kernel, by decide +kernel, List.mem_of_getElem? (i := 968) (by decide +kernel), List.mem_of_getElem? (i := 31) (by decide +kernel)⟩
def mX7_given : MD := (RX7, cX7_given, 3, some .long, "given", { frames := 2, cells := 0, slots := 0, locals := 46 }, fun _ => True)
theorem iX7_given : isM yX7_given mX7_given 2 := ⟨rfl, rfl, by decide +kernel, by decide +kernel, by decide +kernel, by decide +kernel, List.mem_of_getElem? (i := 964) (by decide +kernel), List.mem_of_getElem? (i := 31) (by decide +kernel)⟩
def mX7_ahead : MD := (RX7, cX7_ahead, 3, some .long, "ahead", { frames := 2, cells := 0, slots := 0, locals := 46 }, fun _ => True)
theorem iX7_ahead : isM yX7_ahead mX7_ahead 2 := ⟨rfl, rfl, by decide +kernel, by decide +kernel, by decide +kernel, by decide +kernel, List.mem_of_getElem? (i := 972) (by decide +kernel), List.mem_of_getElem? (i := 31) (by decide +kernel)⟩
def mX7_wait : MD := (RX7, cX7_wait, 10, some .long, "wait", { frames := 2, cells := 0, slots := 0, locals := 48 }, fun _ => True)
theorem iX7_wait : isM yX7_wait mX7_wait 1 := ⟨rfl, rfl, by decide +kernel, by decide +kernel, by decide +kernel, by decide +kernel, List.mem_of_getElem? (i := 977) (by decide +kernel), List.mem_of_getElem? (i := 31) (by decide +kernel)⟩
def mX7_event : MD := (RX7, cX7_event, 2, some .long, "event", { frames := 2, cells := 0, slots := 0, locals := 46 }, fun _ => True)
theorem iX7_event : isM yX7_event mX7_event 1 := ⟨rfl, rfl, by decide +kernel, by decide +kernel, by decide +kernel, by decide +kernel, List.mem_of_getElem? (i := 981) (by decide +kernel), List.mem_of_getElem? (i := 31) (by decide +kernel)⟩
def mX7_isEvent : MD := (RX7, cX7_isEvent, 2, some .boolean, "isEvent", { frames := 1, cells := 0, slots := 0, locals := 25 }, fun _ => True)
theorem iX7_isEvent : isM yX7_isEvent mX7_isEvent 1 := ⟨rfl, rfl, by decide +kernel, by decide +kernel, by decide +kernel, by decide +kernel, List.mem_of_getElem? (i := 989) (by decide +kernel), List.mem_of_getElem? (i := 31) (by decide +kernel)⟩
def mX7_link : MD := (RX7, cX7_link, 3, some .long, "link", { frames := 2, cells := 0, slots := 0, locals := 46 }, fun _ => True)
theorem iX7_link : isM yX7_link mX7_link 2 := ⟨rfl, rfl, by decide +kernel, by decide +kernel, by decide +kernel, by decide +kernel, List.mem_of_getElem? (i := 985) (by decide +kernel), List.mem_of_getElem? (i := 31) (by decide +kernel)⟩
def mX7_findLongest : MD := (RX7, cX7_findLongest, 7, some .boolean, "findLongest", { frames := 0, cells := 0, slots := 0, locals := 0 }, fun _ => True)
theorem iX7_findLongest : isM yX7_findLongest mX7_findLongest 0 := ⟨rfl, rfl, by decide +kernel, by decide +kernel, by decide +kernel, by decide +kernel, List.mem_of_getElem? (i := 997) (by decide +kernel), List.mem_of_getElem? (i := 31) (by decide +kernel)⟩
def mX7_mend : MD := (RX7, cX7_mend, 8, some .long, "mend", { frames := 2, cells := 0, slots := 0, locals := 48 }, fun _ => True)
theorem iX7_mend : isM yX7_mend mX7_mend 0 := ⟨rfl, rfl, by decide +kernel, by decide +kernel, by decide +kernel, by decide +kernel, List.mem_of_getElem? (i := 993) (by decide +kernel), List.mem_of_getElem? (i := 31) (by decide +kernel)⟩
def mX7_findTimes : MD := (RX7, cX7_findTimes, 6, some .boolean, "findTimes", { frames := 3, cells := 0, slots := 0, locals := 75 }, fun _ => True)
theorem iX7_findTimes : isM yX7_findTimes mX7_findTimes 0 := ⟨rfl, rfl, by decide +kernel, by decide +kernel, by decide +kernel, by decide +kernel, List.mem_of_getElem? (i := 1005) (by decide +kernel), List.mem_of_getElem? (i := 31) (by decide +kernel)⟩
def mX7_order : MD := (RX7, cX7_order, 5, some .long, "order", { frames := 4, cells := 0, slots := 0, locals := 100 }, fun _ => True)
theorem iX7_order : isM yX7_order mX7_order 1 := ⟨rfl, rfl, by decide +kernel, by decide +kernel, by decide +kernel, by decide +kernel, List.mem_of_getElem? (i := 1001) (by decide +kernel), List.mem_of_getElem? (i := 31) (by decide +kernel)⟩
def mX7_time : MD := (RX7, cX7_time, 2, some .long, "time", { frames := 4, cells := 0, slots := 0, locals := 100 }, fun _ => True)
theorem iX7_time : isM yX7_time mX7_time 1 := ⟨rfl, rfl, by decide +kernel, by decide +kernel, by decide +kernel, by decide +kernel, List.mem_of_getElem? (i := 1010) (by decide +kernel), List.mem_of_getElem? (i := 31) (by decide +kernel)⟩
def mX7_ringFrom : MD := (RX7, cX7_ringFrom, 6, some .int, "ringFrom", { frames := 0, cells := 0, slots := 0, locals := 0 }, fun _ => True)
theorem iX7_ringFrom : isM yX7_ringFrom mX7_ringFrom 1 := ⟨rfl, rfl, by decide +kernel, by decide +kernel, by decide +kernel, by decide +kernel, List.mem_of_getElem? (i := 1018) (by decide +kernel), List.mem_of_getElem? (i := 31) (by decide +kernel)⟩
def mX7_ring : MD := (RX7, cX7_ring, 7, some .long, "ring", { frames := 1, cells := 0, slots := 0, locals := 25 }, fun _ => True)
theorem iX7_ring : isM yX7_ring mX7_ring 1 := ⟨rfl, rfl, by decide +kernel, by decide +kernel, by decide +kernel, by decide +kernel, List.mem_of_getElem? (i := 1014) (by decide +kernel), List.mem_of_getElem? (i := 31) (by decide +kernel)⟩
def mX7_count : MD := (RX7, cX7_count, 4, some .long, "count", { frames := 0, cells := 0, slots := 0, locals := 0 }, fun _ => True)
theorem iX7_count : isM yX7_count mX7_count 1 := ⟨rfl, rfl, by decide +kernel, by decide +kernel, by decide +kernel, by decide +kernel, List.mem_of_getElem? (i := 1022) (by decide +kernel), List.mem_of_getElem? (i := 31) (by decide +kernel)⟩
theorem flX0_9 : fLk RX0 9 0 0 := ⟨by decide, by decide, List.mem_of_getElem? (i := 57) (by decide +kernel)⟩
theorem flX0_15 : fLk RX0 15 0 1 := ⟨by decide, by decide, List.mem_of_getElem? (i := 59) (by decide +kernel)⟩
theorem flX0_19 : fLk RX0 19 0 2 := ⟨by decide, by decide, List.mem_of_getElem? (i := 60) (by decide +kernel)⟩
theorem flX0_22 : fLk RX0 22 0 3 := ⟨by decide, by decide, List.mem_of_getElem? (i := 61) (by decide +kernel)⟩
theorem flX1_9 : fLk RX1 9 1 0 := ⟨by decide, by decide, List.mem_of_getElem? (i := 361) (by decide +kernel)⟩
theorem flX1_15 : fLk RX1 15 1 1 := ⟨by decide, by decide, List.mem_of_getElem? (i := 363) (by decide +kernel)⟩
theorem flX1_18 : fLk RX1 18 1 2 := ⟨by decide, by decide, List.mem_of_getElem? (i := 365) (by decide +kernel)⟩
theorem flX1_22 : fLk RX1 22 1 3 := ⟨by decide, by decide, List.mem_of_getElem? (i := 367) (by decide +kernel)⟩
theorem flX1_26 : fLk RX1 26 2 1 := ⟨by decide, by decide, List.mem_of_getElem? (i := 206) (by decide +kernel)⟩
theorem flX1_31 : fLk RX1 31 2 10 := ⟨by decide, by decide, List.mem_of_getElem? (i := 222) (by decide +kernel)⟩
theorem flX1_38 : fLk RX1 38 1 5 := ⟨by decide, by decide, List.mem_of_getElem? (i := 371) (by decide +kernel)⟩
theorem flX1_41 : fLk RX1 41 2 11 := ⟨by decide, by decide, List.mem_of_getElem? (i := 224) (by decide +kernel)⟩
theorem flX1_47 : fLk RX1 47 1 6 := ⟨by decide, by decide, List.mem_of_getElem? (i := 373) (by decide +kernel)⟩
theorem flX1_50 : fLk RX1 50 1 4 := ⟨by decide, by decide, List.mem_of_getElem? (i := 369) (by decide +kernel)⟩
theorem flX1_57 : fLk RX1 57 2 0 := ⟨by decide, by decide, List.mem_of_getElem? (i := 203) (by decide +kernel)⟩
theorem flX1_60 : fLk RX1 60 2 2 := ⟨by decide, by decide, List.mem_of_getElem? (i := 209) (by decide +kernel)⟩
theorem flX2_9 : fLk RX2 9 2 0 := ⟨by decide, by decide, List.mem_of_getElem? (i := 202) (by decide +kernel)⟩
theorem flX2_15 : fLk RX2 15 2 1 := ⟨by decide, by decide, List.mem_of_getElem? (i := 205) (by decide +kernel)⟩
theorem flX2_18 : fLk RX2 18 2 2 := ⟨by decide, by decide, List.mem_of_getElem? (i := 208) (by decide +kernel)⟩
theorem flX2_21 : fLk RX2 21 2 3 := ⟨by decide, by decide, List.mem_of_getElem? (i := 211) (by decide +kernel)⟩
theorem flX2_24 : fLk RX2 24 2 4 := ⟨by decide, by decide, List.mem_of_getElem? (i := 212) (by decide +kernel)⟩
theorem flX2_28 : fLk RX2 28 2 5 := ⟨by decide, by decide, List.mem_of_getElem? (i := 214) (by decide +kernel)⟩
theorem flX2_31 : fLk RX2 31 2 6 := ⟨by decide, by decide, List.mem_of_getElem? (i := 216) (by decide +kernel)⟩
theorem flX2_37 : fLk RX2 37 2 8 := ⟨by decide, by decide, List.mem_of_getElem? (i := 219) (by decide +kernel)⟩
theorem flX2_45 : fLk RX2 45 2 12 := ⟨by decide, by decide, List.mem_of_getElem? (i := 226) (by decide +kernel)⟩
theorem flX2_48 : fLk RX2 48 2 9 := ⟨by decide, by decide, List.mem_of_getElem? (i := 221) (by decide +kernel)⟩
theorem flX2_73 : fLk RX2 73 4 0 := ⟨by decide, by decide, List.mem_of_getElem? (i := 182) (by decide +kernel)⟩
theorem flX3_9 : fLk RX3 9 3 0 := ⟨by decide, by decide, List.mem_of_getElem? (i := 80) (by decide +kernel)⟩
theorem flX3_15 : fLk RX3 15 3 1 := ⟨by decide, by decide, List.mem_of_getElem? (i := 81) (by decide +kernel)⟩
theorem flX3_18 : fLk RX3 18 3 3 := ⟨by decide, by decide, List.mem_of_getElem? (i := 84) (by decide +kernel)⟩
theorem flX3_22 : fLk RX3 22 3 4 := ⟨by decide, by decide, List.mem_of_getElem? (i := 85) (by decide +kernel)⟩
theorem flX3_25 : fLk RX3 25 3 6 := ⟨by decide, by decide, List.mem_of_getElem? (i := 88) (by decide +kernel)⟩
theorem flX3_28 : fLk RX3 28 3 7 := ⟨by decide, by decide, List.mem_of_getElem? (i := 89) (by decide +kernel)⟩
theorem flX3_31 : fLk RX3 31 3 8 := ⟨by decide, by decide, List.mem_of_getElem? (i := 91) (by decide +kernel)⟩
theorem flX3_34 : fLk RX3 34 3 9 := ⟨by decide, by decide, List.mem_of_getElem? (i := 93) (by decide +kernel)⟩
theorem flX3_37 : fLk RX3 37 3 10 := ⟨by decide, by decide, List.mem_of_getElem? (i := 95) (by decide +kernel)⟩
theorem flX3_40 : fLk RX3 40 3 2 := ⟨by decide, by decide, List.mem_of_getElem? (i := 82) (by decide +kernel)⟩
theorem flX3_46 : fLk RX3 46 3 13 := ⟨by decide, by decide, List.mem_of_getElem? (i := 100) (by decide +kernel)⟩
theorem flX3_50 : fLk RX3 50 3 5 := ⟨by decide, by decide, List.mem_of_getElem? (i := 86) (by decide +kernel)⟩
theorem flX3_57 : fLk RX3 57 3 11 := ⟨by decide, by decide, List.mem_of_getElem? (i := 96) (by decide +kernel)⟩
theorem flX3_66 : fLk RX3 66 3 12 := ⟨by decide, by decide, List.mem_of_getElem? (i := 98) (by decide +kernel)⟩
theorem flX4_7 : fLk RX4 7 4 0 := ⟨by decide, by decide, List.mem_of_getElem? (i := 181) (by decide +kernel)⟩
theorem flX4_13 : fLk RX4 13 4 1 := ⟨by decide, by decide, List.mem_of_getElem? (i := 183) (by decide +kernel)⟩
theorem flX4_17 : fLk RX4 17 4 2 := ⟨by decide, by decide, List.mem_of_getElem? (i := 185) (by decide +kernel)⟩
theorem flX4_20 : fLk RX4 20 4 3 := ⟨by decide, by decide, List.mem_of_getElem? (i := 186) (by decide +kernel)⟩
theorem flX5_7 : fLk RX5 7 5 0 := ⟨by decide, by decide, List.mem_of_getElem? (i := 531) (by decide +kernel)⟩
theorem flX5_13 : fLk RX5 13 5 1 := ⟨by decide, by decide, List.mem_of_getElem? (i := 533) (by decide +kernel)⟩
theorem flX5_16 : fLk RX5 16 5 2 := ⟨by decide, by decide, List.mem_of_getElem? (i := 535) (by decide +kernel)⟩
theorem flX5_20 : fLk RX5 20 5 3 := ⟨by decide, by decide, List.mem_of_getElem? (i := 537) (by decide +kernel)⟩
theorem flX6_7 : fLk RX6 7 6 0 := ⟨by decide, by decide, List.mem_of_getElem? (i := 130) (by decide +kernel)⟩
theorem flX6_15 : fLk RX6 15 6 1 := ⟨by decide, by decide, List.mem_of_getElem? (i := 131) (by decide +kernel)⟩
theorem flX6_19 : fLk RX6 19 6 2 := ⟨by decide, by decide, List.mem_of_getElem? (i := 132) (by decide +kernel)⟩
theorem flX6_25 : fLk RX6 25 6 3 := ⟨by decide, by decide, List.mem_of_getElem? (i := 133) (by decide +kernel)⟩
theorem flX6_29 : fLk RX6 29 6 4 := ⟨by decide, by decide, List.mem_of_getElem? (i := 134) (by decide +kernel)⟩
theorem flX6_34 : fLk RX6 34 6 5 := ⟨by decide, by decide, List.mem_of_getElem? (i := 135) (by decide +kernel)⟩
theorem flX6_38 : fLk RX6 38 6 6 := ⟨by decide, by decide, List.mem_of_getElem? (i := 136) (by decide +kernel)⟩
theorem flX6_44 : fLk RX6 44 6 7 := ⟨by decide, by decide, List.mem_of_getElem? (i := 137) (by decide +kernel)⟩
theorem flX6_51 : fLk RX6 51 6 8 := ⟨by decide, by decide, List.mem_of_getElem? (i := 138) (by decide +kernel)⟩
theorem flX6_68 : fLk RX6 68 2 4 := ⟨by decide, by decide, List.mem_of_getElem? (i := 213) (by decide +kernel)⟩
theorem flX6_71 : fLk RX6 71 2 5 := ⟨by decide, by decide, List.mem_of_getElem? (i := 215) (by decide +kernel)⟩
theorem flX6_74 : fLk RX6 74 2 6 := ⟨by decide, by decide, List.mem_of_getElem? (i := 217) (by decide +kernel)⟩
theorem flX6_85 : fLk RX6 85 2 2 := ⟨by decide, by decide, List.mem_of_getElem? (i := 210) (by decide +kernel)⟩
theorem flX6_92 : fLk RX6 92 2 1 := ⟨by decide, by decide, List.mem_of_getElem? (i := 207) (by decide +kernel)⟩
theorem flX6_99 : fLk RX6 99 2 10 := ⟨by decide, by decide, List.mem_of_getElem? (i := 223) (by decide +kernel)⟩
theorem flX6_102 : fLk RX6 102 2 11 := ⟨by decide, by decide, List.mem_of_getElem? (i := 225) (by decide +kernel)⟩
theorem flX6_105 : fLk RX6 105 2 7 := ⟨by decide, by decide, List.mem_of_getElem? (i := 218) (by decide +kernel)⟩
theorem flX6_118 : fLk RX6 118 2 12 := ⟨by decide, by decide, List.mem_of_getElem? (i := 227) (by decide +kernel)⟩
theorem flX6_125 : fLk RX6 125 2 14 := ⟨by decide, by decide, List.mem_of_getElem? (i := 229) (by decide +kernel)⟩
theorem flX6_128 : fLk RX6 128 2 15 := ⟨by decide, by decide, List.mem_of_getElem? (i := 230) (by decide +kernel)⟩
theorem flX6_146 : fLk RX6 146 1 3 := ⟨by decide, by decide, List.mem_of_getElem? (i := 368) (by decide +kernel)⟩
theorem flX6_149 : fLk RX6 149 1 1 := ⟨by decide, by decide, List.mem_of_getElem? (i := 364) (by decide +kernel)⟩
theorem flX6_153 : fLk RX6 153 1 0 := ⟨by decide, by decide, List.mem_of_getElem? (i := 362) (by decide +kernel)⟩
theorem flX6_165 : fLk RX6 165 1 2 := ⟨by decide, by decide, List.mem_of_getElem? (i := 366) (by decide +kernel)⟩
theorem flX6_168 : fLk RX6 168 1 4 := ⟨by decide, by decide, List.mem_of_getElem? (i := 370) (by decide +kernel)⟩
theorem flX6_171 : fLk RX6 171 1 5 := ⟨by decide, by decide, List.mem_of_getElem? (i := 372) (by decide +kernel)⟩
theorem flX6_174 : fLk RX6 174 1 6 := ⟨by decide, by decide, List.mem_of_getElem? (i := 374) (by decide +kernel)⟩
theorem flX6_180 : fLk RX6 180 2 0 := ⟨by decide, by decide, List.mem_of_getElem? (i := 204) (by decide +kernel)⟩
theorem flX6_202 : fLk RX6 202 0 3 := ⟨by decide, by decide, List.mem_of_getElem? (i := 62) (by decide +kernel)⟩
theorem flX6_227 : fLk RX6 227 2 8 := ⟨by decide, by decide, List.mem_of_getElem? (i := 220) (by decide +kernel)⟩
theorem flX6_237 : fLk RX6 237 2 13 := ⟨by decide, by decide, List.mem_of_getElem? (i := 228) (by decide +kernel)⟩
theorem flX6_257 : fLk RX6 257 5 0 := ⟨by decide, by decide, List.mem_of_getElem? (i := 532) (by decide +kernel)⟩
theorem flX6_258 : fLk RX6 258 5 1 := ⟨by decide, by decide, List.mem_of_getElem? (i := 534) (by decide +kernel)⟩
theorem flX6_259 : fLk RX6 259 5 2 := ⟨by decide, by decide, List.mem_of_getElem? (i := 536) (by decide +kernel)⟩
theorem flX6_262 : fLk RX6 262 5 3 := ⟨by decide, by decide, List.mem_of_getElem? (i := 538) (by decide +kernel)⟩
theorem flX6_271 : fLk RX6 271 4 3 := ⟨by decide, by decide, List.mem_of_getElem? (i := 187) (by decide +kernel)⟩
theorem flX6_274 : fLk RX6 274 4 1 := ⟨by decide, by decide, List.mem_of_getElem? (i := 184) (by decide +kernel)⟩
theorem flX6_279 : fLk RX6 279 3 2 := ⟨by decide, by decide, List.mem_of_getElem? (i := 83) (by decide +kernel)⟩
theorem flX6_288 : fLk RX6 288 3 5 := ⟨by decide, by decide, List.mem_of_getElem? (i := 87) (by decide +kernel)⟩
theorem flX6_298 : fLk RX6 298 3 12 := ⟨by decide, by decide, List.mem_of_getElem? (i := 99) (by decide +kernel)⟩
theorem flX6_301 : fLk RX6 301 3 8 := ⟨by decide, by decide, List.mem_of_getElem? (i := 92) (by decide +kernel)⟩
theorem flX6_305 : fLk RX6 305 3 7 := ⟨by decide, by decide, List.mem_of_getElem? (i := 90) (by decide +kernel)⟩
theorem flX6_309 : fLk RX6 309 3 11 := ⟨by decide, by decide, List.mem_of_getElem? (i := 97) (by decide +kernel)⟩
theorem flX6_312 : fLk RX6 312 3 9 := ⟨by decide, by decide, List.mem_of_getElem? (i := 94) (by decide +kernel)⟩
theorem flX6_329 : fLk RX6 329 0 0 := ⟨by decide, by decide, List.mem_of_getElem? (i := 58) (by decide +kernel)⟩
theorem flX7_7 : fLk RX7 7 7 2 := ⟨by decide, by decide, List.mem_of_getElem? (i := 662) (by decide +kernel)⟩
theorem flX7_13 : fLk RX7 13 7 3 := ⟨by decide, by decide, List.mem_of_getElem? (i := 663) (by decide +kernel)⟩
theorem flX7_17 : fLk RX7 17 7 4 := ⟨by decide, by decide, List.mem_of_getElem? (i := 664) (by decide +kernel)⟩
theorem flX7_20 : fLk RX7 20 7 5 := ⟨by decide, by decide, List.mem_of_getElem? (i := 665) (by decide +kernel)⟩
theorem flX7_23 : fLk RX7 23 7 6 := ⟨by decide, by decide, List.mem_of_getElem? (i := 666) (by decide +kernel)⟩
theorem flX7_26 : fLk RX7 26 7 7 := ⟨by decide, by decide, List.mem_of_getElem? (i := 667) (by decide +kernel)⟩
theorem flX7_29 : fLk RX7 29 7 8 := ⟨by decide, by decide, List.mem_of_getElem? (i := 668) (by decide +kernel)⟩
theorem flX7_32 : fLk RX7 32 7 9 := ⟨by decide, by decide, List.mem_of_getElem? (i := 669) (by decide +kernel)⟩
theorem flX7_35 : fLk RX7 35 7 10 := ⟨by decide, by decide, List.mem_of_getElem? (i := 670) (by decide +kernel)⟩
theorem flX7_38 : fLk RX7 38 7 11 := ⟨by decide, by decide, List.mem_of_getElem? (i := 671) (by decide +kernel)⟩
theorem flX7_41 : fLk RX7 41 7 12 := ⟨by decide, by decide, List.mem_of_getElem? (i := 672) (by decide +kernel)⟩
theorem flX7_44 : fLk RX7 44 7 13 := ⟨by decide, by decide, List.mem_of_getElem? (i := 673) (by decide +kernel)⟩
theorem flX7_48 : fLk RX7 48 7 14 := ⟨by decide, by decide, List.mem_of_getElem? (i := 674) (by decide +kernel)⟩
theorem flX7_51 : fLk RX7 51 7 15 := ⟨by decide, by decide, List.mem_of_getElem? (i := 675) (by decide +kernel)⟩
theorem flX7_54 : fLk RX7 54 7 16 := ⟨by decide, by decide, List.mem_of_getElem? (i := 676) (by decide +kernel)⟩
theorem flX7_57 : fLk RX7 57 7 17 := ⟨by decide, by decide, List.mem_of_getElem? (i := 677) (by decide +kernel)⟩
theorem flX7_60 : fLk RX7 60 7 18 := ⟨by decide, by decide, List.mem_of_getElem? (i := 678) (by decide +kernel)⟩
theorem flX7_63 : fLk RX7 63 7 19 := ⟨by decide, by decide, List.mem_of_getElem? (i := 679) (by decide +kernel)⟩
theorem flX7_66 : fLk RX7 66 7 20 := ⟨by decide, by decide, List.mem_of_getElem? (i := 680) (by decide +kernel)⟩
theorem flX7_69 : fLk RX7 69 7 21 := ⟨by decide, by decide, List.mem_of_getElem? (i := 681) (by decide +kernel)⟩
theorem flX7_72 : fLk RX7 72 7 23 := ⟨by decide, by decide, List.mem_of_getElem? (i := 683) (by decide +kernel)⟩
theorem flX7_75 : fLk RX7 75 7 24 := ⟨by decide, by decide, List.mem_of_getElem? (i := 684) (by decide +kernel)⟩
theorem flX7_78 : fLk RX7 78 7 25 := ⟨by decide, by decide, List.mem_of_getElem? (i := 685) (by decide +kernel)⟩
theorem flX7_81 : fLk RX7 81 7 26 := ⟨by decide, by decide, List.mem_of_getElem? (i := 686) (by decide +kernel)⟩
theorem flX7_84 : fLk RX7 84 7 27 := ⟨by decide, by decide, List.mem_of_getElem? (i := 687) (by decide +kernel)⟩
theorem flX7_87 : fLk RX7 87 7 28 := ⟨by decide, by decide, List.mem_of_getElem? (i := 688) (by decide +kernel)⟩
theorem flX7_90 : fLk RX7 90 7 29 := ⟨by decide, by decide, List.mem_of_getElem? (i := 689) (by decide +kernel)⟩
theorem flX7_93 : fLk RX7 93 7 31 := ⟨by decide, by decide, List.mem_of_getElem? (i := 691) (by decide +kernel)⟩
theorem flX7_96 : fLk RX7 96 7 32 := ⟨by decide, by decide, List.mem_of_getElem? (i := 692) (by decide +kernel)⟩
theorem flX7_99 : fLk RX7 99 7 33 := ⟨by decide, by decide, List.mem_of_getElem? (i := 693) (by decide +kernel)⟩
theorem flX7_102 : fLk RX7 102 7 34 := ⟨by decide, by decide, List.mem_of_getElem? (i := 694) (by decide +kernel)⟩
theorem flX7_105 : fLk RX7 105 7 36 := ⟨by decide, by decide, List.mem_of_getElem? (i := 696) (by decide +kernel)⟩
theorem flX7_108 : fLk RX7 108 7 37 := ⟨by decide, by decide, List.mem_of_getElem? (i := 697) (by decide +kernel)⟩
theorem flX7_111 : fLk RX7 111 7 39 := ⟨by decide, by decide, List.mem_of_getElem? (i := 699) (by decide +kernel)⟩
theorem flX7_114 : fLk RX7 114 7 41 := ⟨by decide, by decide, List.mem_of_getElem? (i := 701) (by decide +kernel)⟩
theorem flX7_117 : fLk RX7 117 7 42 := ⟨by decide, by decide, List.mem_of_getElem? (i := 702) (by decide +kernel)⟩
theorem flX7_120 : fLk RX7 120 7 43 := ⟨by decide, by decide, List.mem_of_getElem? (i := 703) (by decide +kernel)⟩
theorem flX7_123 : fLk RX7 123 7 44 := ⟨by decide, by decide, List.mem_of_getElem? (i := 704) (by decide +kernel)⟩
theorem flX7_126 : fLk RX7 126 7 49 := ⟨by decide, by decide, List.mem_of_getElem? (i := 709) (by decide +kernel)⟩
theorem flX7_129 : fLk RX7 129 7 50 := ⟨by decide, by decide, List.mem_of_getElem? (i := 710) (by decide +kernel)⟩
theorem flX7_132 : fLk RX7 132 7 51 := ⟨by decide, by decide, List.mem_of_getElem? (i := 711) (by decide +kernel)⟩
theorem flX7_139 : fLk RX7 139 7 1 := ⟨by decide, by decide, List.mem_of_getElem? (i := 661) (by decide +kernel)⟩
theorem flX7_149 : fLk RX7 149 7 0 := ⟨by decide, by decide, List.mem_of_getElem? (i := 660) (by decide +kernel)⟩
theorem flX7_197 : fLk RX7 197 7 22 := ⟨by decide, by decide, List.mem_of_getElem? (i := 682) (by decide +kernel)⟩
theorem flX7_212 : fLk RX7 212 7 40 := ⟨by decide, by decide, List.mem_of_getElem? (i := 700) (by decide +kernel)⟩
theorem flX7_223 : fLk RX7 223 7 45 := ⟨by decide, by decide, List.mem_of_getElem? (i := 705) (by decide +kernel)⟩
theorem flX7_226 : fLk RX7 226 7 46 := ⟨by decide, by decide, List.mem_of_getElem? (i := 706) (by decide +kernel)⟩
theorem flX7_229 : fLk RX7 229 7 47 := ⟨by decide, by decide, List.mem_of_getElem? (i := 707) (by decide +kernel)⟩
theorem flX7_232 : fLk RX7 232 7 48 := ⟨by decide, by decide, List.mem_of_getElem? (i := 708) (by decide +kernel)⟩
theorem flX7_238 : fLk RX7 238 7 30 := ⟨by decide, by decide, List.mem_of_getElem? (i := 690) (by decide +kernel)⟩
theorem flX7_246 : fLk RX7 246 7 35 := ⟨by decide, by decide, List.mem_of_getElem? (i := 695) (by decide +kernel)⟩
theorem flX7_252 : fLk RX7 252 7 38 := ⟨by decide, by decide, List.mem_of_getElem? (i := 698) (by decide +kernel)⟩
theorem mlL_9 : Cond.methodLink RL 9 yX6_init ∈ lw_tbl := List.mem_of_getElem? (i := 39) (by decide +kernel)
theorem mlL_12 : Cond.methodLink RL 12 yX7_init ∈ lw_tbl := List.mem_of_getElem? (i := 656) (by decide +kernel)
theorem mlL_13 : Cond.methodLink RL 13 yX6_go ∈ lw_tbl := List.mem_of_getElem? (i := 158) (by decide +kernel)
theorem mlL_17 : Cond.methodLink RL 17 yX7_go ∈ lw_tbl := List.mem_of_getElem? (i := 818) (by decide +kernel)
theorem mlL_18 : Cond.methodLink RL 18 yX6_member ∈ lw_tbl := List.mem_of_getElem? (i := 165) (by decide +kernel)
theorem mlL_22 : Cond.methodLink RL 22 yX7_member ∈ lw_tbl := List.mem_of_getElem? (i := 828) (by decide +kernel)
theorem mlL_23 : Cond.methodLink RL 23 yX6_rate ∈ lw_tbl := List.mem_of_getElem? (i := 264) (by decide +kernel)
theorem mlL_26 : Cond.methodLink RL 26 yX7_rate ∈ lw_tbl := List.mem_of_getElem? (i := 835) (by decide +kernel)
theorem mlL_29 : Cond.methodLink RL 29 yX6_lie ∈ lw_tbl := List.mem_of_getElem? (i := 279) (by decide +kernel)
theorem mlL_33 : Cond.methodLink RL 33 yX7_lie ∈ lw_tbl := List.mem_of_getElem? (i := 844) (by decide +kernel)
theorem mlL_34 : Cond.methodLink RL 34 yX6_rest ∈ lw_tbl := List.mem_of_getElem? (i := 285) (by decide +kernel)
theorem mlL_38 : Cond.methodLink RL 38 yX7_rest ∈ lw_tbl := List.mem_of_getElem? (i := 850) (by decide +kernel)
theorem mlL_39 : Cond.methodLink RL 39 yX6_counter ∈ lw_tbl := List.mem_of_getElem? (i := 289) (by decide +kernel)
theorem mlL_42 : Cond.methodLink RL 42 yX7_counter ∈ lw_tbl := List.mem_of_getElem? (i := 854) (by decide +kernel)
theorem mlL_43 : Cond.methodLink RL 43 yX6_of ∈ lw_tbl := List.mem_of_getElem? (i := 303) (by decide +kernel)
theorem mlL_47 : Cond.methodLink RL 47 yX7_of ∈ lw_tbl := List.mem_of_getElem? (i := 865) (by decide +kernel)
theorem mlL_48 : Cond.methodLink RL 48 yX6_ask ∈ lw_tbl := List.mem_of_getElem? (i := 352) (by decide +kernel)
theorem mlL_51 : Cond.methodLink RL 51 yX7_ask ∈ lw_tbl := List.mem_of_getElem? (i := 892) (by decide +kernel)
theorem mlL_52 : Cond.methodLink RL 52 yX6_deliver ∈ lw_tbl := List.mem_of_getElem? (i := 394) (by decide +kernel)
theorem mlL_55 : Cond.methodLink RL 55 yX7_deliver ∈ lw_tbl := List.mem_of_getElem? (i := 896) (by decide +kernel)
theorem mlL_56 : Cond.methodLink RL 56 yX6_lose ∈ lw_tbl := List.mem_of_getElem? (i := 427) (by decide +kernel)
theorem mlL_59 : Cond.methodLink RL 59 yX7_lose ∈ lw_tbl := List.mem_of_getElem? (i := 905) (by decide +kernel)
theorem mlL_60 : Cond.methodLink RL 60 yX6_twice ∈ lw_tbl := List.mem_of_getElem? (i := 431) (by decide +kernel)
theorem mlL_63 : Cond.methodLink RL 63 yX7_twice ∈ lw_tbl := List.mem_of_getElem? (i := 909) (by decide +kernel)
theorem mlL_64 : Cond.methodLink RL 64 yX6_letter ∈ lw_tbl := List.mem_of_getElem? (i := 435) (by decide +kernel)
theorem mlL_67 : Cond.methodLink RL 67 yX7_letter ∈ lw_tbl := List.mem_of_getElem? (i := 913) (by decide +kernel)
theorem mlL_68 : Cond.methodLink RL 68 yX6_heard ∈ lw_tbl := List.mem_of_getElem? (i := 439) (by decide +kernel)
theorem mlL_71 : Cond.methodLink RL 71 yX7_heard ∈ lw_tbl := List.mem_of_getElem? (i := 917) (by decide +kernel)
theorem mlL_72 : Cond.methodLink RL 72 yX6_votes ∈ lw_tbl := List.mem_of_getElem? (i := 453) (by decide +kernel)
theorem mlL_76 : Cond.methodLink RL 76 yX7_votes ∈ lw_tbl := List.mem_of_getElem? (i := 929) (by decide +kernel)
theorem mlL_77 : Cond.methodLink RL 77 yX6_council ∈ lw_tbl := List.mem_of_getElem? (i := 473) (by decide +kernel)
theorem mlL_80 : Cond.methodLink RL 80 yX7_council ∈ lw_tbl := List.mem_of_getElem? (i := 941) (by decide +kernel)
theorem mlL_81 : Cond.methodLink RL 81 yX6_meet ∈ lw_tbl := List.mem_of_getElem? (i := 499) (by decide +kernel)
theorem mlL_84 : Cond.methodLink RL 84 yX7_meet ∈ lw_tbl := List.mem_of_getElem? (i := 949) (by decide +kernel)
theorem mlL_85 : Cond.methodLink RL 85 yX6_lead ∈ lw_tbl := List.mem_of_getElem? (i := 512) (by decide +kernel)
theorem mlL_88 : Cond.methodLink RL 88 yX7_lead ∈ lw_tbl := List.mem_of_getElem? (i := 953) (by decide +kernel)
theorem mlL_89 : Cond.methodLink RL 89 yX6_stamp ∈ lw_tbl := List.mem_of_getElem? (i := 522) (by decide +kernel)
theorem mlL_92 : Cond.methodLink RL 92 yX7_stamp ∈ lw_tbl := List.mem_of_getElem? (i := 957) (by decide +kernel)
theorem mlL_93 : Cond.methodLink RL 93 yX6_given ∈ lw_tbl := List.mem_of_getElem? (i := 548) (by decide +kernel)
theorem mlL_96 : Cond.methodLink RL 96 yX7_given ∈ lw_tbl := List.mem_of_getElem? (i := 961) (by decide +kernel)
theorem mlL_97 : Cond.methodLink RL 97 yX6_ahead ∈ lw_tbl := List.mem_of_getElem? (i := 556) (by decide +kernel)
theorem mlL_100 : Cond.methodLink RL 100 yX7_ahead ∈ lw_tbl := List.mem_of_getElem? (i := 969) (by decide +kernel)
theorem mlL_101 : Cond.methodLink RL 101 yX6_wait ∈ lw_tbl := List.mem_of_getElem? (i := 561) (by decide +kernel)
theorem mlL_104 : Cond.methodLink RL 104 yX7_wait ∈ lw_tbl := List.mem_of_getElem? (i := 974) (by decide +kernel)
theorem mlL_105 : Cond.methodLink RL 105 yX6_event ∈ lw_tbl := List.mem_of_getElem? (i := 572) (by decide +kernel)
theorem mlL_108 : Cond.methodLink RL 108 yX7_event ∈ lw_tbl := List.mem_of_getElem? (i := 978) (by decide +kernel)
theorem mlL_109 : Cond.methodLink RL 109 yX6_link ∈ lw_tbl := List.mem_of_getElem? (i := 581) (by decide +kernel)
theorem mlL_112 : Cond.methodLink RL 112 yX7_link ∈ lw_tbl := List.mem_of_getElem? (i := 982) (by decide +kernel)
theorem mlL_113 : Cond.methodLink RL 113 yX6_mend ∈ lw_tbl := List.mem_of_getElem? (i := 594) (by decide +kernel)
theorem mlL_117 : Cond.methodLink RL 117 yX7_mend ∈ lw_tbl := List.mem_of_getElem? (i := 990) (by decide +kernel)
theorem mlL_118 : Cond.methodLink RL 118 yX6_order ∈ lw_tbl := List.mem_of_getElem? (i := 634) (by decide +kernel)
theorem mlL_121 : Cond.methodLink RL 121 yX7_order ∈ lw_tbl := List.mem_of_getElem? (i := 998) (by decide +kernel)
theorem mlL_122 : Cond.methodLink RL 122 yX6_time ∈ lw_tbl := List.mem_of_getElem? (i := 638) (by decide +kernel)
theorem mlL_125 : Cond.methodLink RL 125 yX7_time ∈ lw_tbl := List.mem_of_getElem? (i := 1007) (by decide +kernel)
theorem mlL_126 : Cond.methodLink RL 126 yX6_ring ∈ lw_tbl := List.mem_of_getElem? (i := 642) (by decide +kernel)
theorem mlL_129 : Cond.methodLink RL 129 yX7_ring ∈ lw_tbl := List.mem_of_getElem? (i := 1011) (by decide +kernel)
theorem mlL_130 : Cond.methodLink RL 130 yX6_count ∈ lw_tbl := List.mem_of_getElem? (i := 646) (by decide +kernel)
theorem mlL_133 : Cond.methodLink RL 133 yX7_count ∈ lw_tbl := List.mem_of_getElem? (i := 1019) (by decide +kernel)
theorem mlX0_3 : Cond.methodLink RX0 3 objectInit ∈ lw_tbl := List.mem_of_getElem? (i := 56) (by decide +kernel)
theorem mlX0_28 : Cond.methodLink RX0 28 yX0_having ∈ lw_tbl := List.mem_of_getElem? (i := 481) (by decide +kernel)
theorem mlX0_32 : Cond.methodLink RX0 32 yX0_beganBefore ∈ lw_tbl := List.mem_of_getElem? (i := 482) (by decide +kernel)
theorem mlX1_3 : Cond.methodLink RX1 3 objectInit ∈ lw_tbl := List.mem_of_getElem? (i := 360) (by decide +kernel)
theorem mlX1_34 : Cond.methodLink RX1 34 yX2_lowAt ∈ lw_tbl := List.mem_of_getElem? (i := 414) (by decide +kernel)
theorem mlX1_44 : Cond.methodLink RX1 44 yX2_highAt ∈ lw_tbl := List.mem_of_getElem? (i := 415) (by decide +kernel)
theorem mlX1_54 : Cond.methodLink RX1 54 yX2_countedAt ∈ lw_tbl := List.mem_of_getElem? (i := 420) (by decide +kernel)
theorem mlX1_67 : Cond.methodLink RX1 67 yX2_hear ∈ lw_tbl := List.mem_of_getElem? (i := 422) (by decide +kernel)
theorem mlX2_3 : Cond.methodLink RX2 3 objectInit ∈ lw_tbl := List.mem_of_getElem? (i := 174) (by decide +kernel)
theorem mlX2_41 : Cond.methodLink RX2 41 yX4_put ∈ lw_tbl := List.mem_of_getElem? (i := 197) (by decide +kernel)
theorem mlX2_56 : Cond.methodLink RX2 56 yX2_countedAt ∈ lw_tbl := List.mem_of_getElem? (i := 311) (by decide +kernel)
theorem mlX2_60 : Cond.methodLink RX2 60 yX4_lowWhen ∈ lw_tbl := List.mem_of_getElem? (i := 312) (by decide +kernel)
theorem mlX2_64 : Cond.methodLink RX2 64 yX4_highWhen ∈ lw_tbl := List.mem_of_getElem? (i := 324) (by decide +kernel)
theorem mlX2_67 : Cond.methodLink RX2 67 yX2_lowAt ∈ lw_tbl := List.mem_of_getElem? (i := 338) (by decide +kernel)
theorem mlX2_70 : Cond.methodLink RX2 70 yX2_highAt ∈ lw_tbl := List.mem_of_getElem? (i := 339) (by decide +kernel)
theorem mlX2_77 : Cond.methodLink RX2 77 yX2_spanOf ∈ lw_tbl := List.mem_of_getElem? (i := 348) (by decide +kernel)
theorem mlX2_83 : Cond.methodLink RX2 83 yX2_hasHeardOf ∈ lw_tbl := List.mem_of_getElem? (i := 344) (by decide +kernel)
theorem mlX3_3 : Cond.methodLink RX3 3 objectInit ∈ lw_tbl := List.mem_of_getElem? (i := 79) (by decide +kernel)
theorem mlX3_53 : Cond.methodLink RX3 53 yX3_hasEvent ∈ lw_tbl := List.mem_of_getElem? (i := 593) (by decide +kernel)
theorem mlX3_60 : Cond.methodLink RX3 60 yX3_findEarliest ∈ lw_tbl := List.mem_of_getElem? (i := 602) (by decide +kernel)
theorem mlX3_70 : Cond.methodLink RX3 70 yX3_findRing ∈ lw_tbl := List.mem_of_getElem? (i := 611) (by decide +kernel)
theorem mlX3_73 : Cond.methodLink RX3 73 yX3_findWidening ∈ lw_tbl := List.mem_of_getElem? (i := 623) (by decide +kernel)
theorem mlX3_76 : Cond.methodLink RX3 76 yX3_rank ∈ lw_tbl := List.mem_of_getElem? (i := 630) (by decide +kernel)
theorem mlX3_79 : Cond.methodLink RX3 79 yX3_raiseOnce ∈ lw_tbl := List.mem_of_getElem? (i := 606) (by decide +kernel)
theorem mlX3_88 : Cond.methodLink RX3 88 yJ9_max_f86c9 ∈ lw_tbl := List.mem_of_getElem? (i := 629) (by decide +kernel)
theorem mlX3_93 : Cond.methodLink RX3 93 yX3_measureTo ∈ lw_tbl := List.mem_of_getElem? (i := 615) (by decide +kernel)
theorem mlX3_97 : Cond.methodLink RX3 97 yX3_nearestAfter ∈ lw_tbl := List.mem_of_getElem? (i := 619) (by decide +kernel)
theorem mlX4_1 : Cond.methodLink RX4 1 objectInit ∈ lw_tbl := List.mem_of_getElem? (i := 180) (by decide +kernel)
theorem mlX5_1 : Cond.methodLink RX5 1 objectInit ∈ lw_tbl := List.mem_of_getElem? (i := 530) (by decide +kernel)
theorem mlX6_1 : Cond.methodLink RX6 1 objectInit ∈ lw_tbl := List.mem_of_getElem? (i := 42) (by decide +kernel)
theorem mlX6_43 : Cond.methodLink RX6 43 yX0_init ∈ lw_tbl := List.mem_of_getElem? (i := 53) (by decide +kernel)
theorem mlX6_50 : Cond.methodLink RX6 50 yX3_init ∈ lw_tbl := List.mem_of_getElem? (i := 76) (by decide +kernel)
theorem mlX6_61 : Cond.methodLink RX6 61 yX2_init ∈ lw_tbl := List.mem_of_getElem? (i := 171) (by decide +kernel)
theorem mlX6_64 : Cond.methodLink RX6 64 yX6_findMember ∈ lw_tbl := List.mem_of_getElem? (i := 268) (by decide +kernel)
theorem mlX6_77 : Cond.methodLink RX6 77 yJ9_abs_067f4 ∈ lw_tbl := List.mem_of_getElem? (i := 272) (by decide +kernel)
theorem mlX6_88 : Cond.methodLink RX6 88 yX6_asBit ∈ lw_tbl := List.mem_of_getElem? (i := 276) (by decide +kernel)
theorem mlX6_109 : Cond.methodLink RX6 109 yX2_countedAt ∈ lw_tbl := List.mem_of_getElem? (i := 293) (by decide +kernel)
theorem mlX6_112 : Cond.methodLink RX6 112 yX2_lowAt ∈ lw_tbl := List.mem_of_getElem? (i := 307) (by decide +kernel)
theorem mlX6_115 : Cond.methodLink RX6 115 yX2_highAt ∈ lw_tbl := List.mem_of_getElem? (i := 320) (by decide +kernel)
theorem mlX6_121 : Cond.methodLink RX6 121 yX2_holds ∈ lw_tbl := List.mem_of_getElem? (i := 334) (by decide +kernel)
theorem mlX6_131 : Cond.methodLink RX6 131 yX2_howManyHeard ∈ lw_tbl := List.mem_of_getElem? (i := 340) (by decide +kernel)
theorem mlX6_135 : Cond.methodLink RX6 135 yX1_init ∈ lw_tbl := List.mem_of_getElem? (i := 357) (by decide +kernel)
theorem mlX6_138 : Cond.methodLink RX6 138 yX6_addLetter ∈ lw_tbl := List.mem_of_getElem? (i := 390) (by decide +kernel)
theorem mlX6_142 : Cond.methodLink RX6 142 yX6_findUnderWay ∈ lw_tbl := List.mem_of_getElem? (i := 398) (by decide +kernel)
theorem mlX6_156 : Cond.methodLink RX6 156 yX1_takeAnswer ∈ lw_tbl := List.mem_of_getElem? (i := 410) (by decide +kernel)
theorem mlX6_160 : Cond.methodLink RX6 160 yX1_bringBack ∈ lw_tbl := List.mem_of_getElem? (i := 416) (by decide +kernel)
theorem mlX6_177 : Cond.methodLink RX6 177 yX6_findLetter ∈ lw_tbl := List.mem_of_getElem? (i := 402) (by decide +kernel)
theorem mlX6_183 : Cond.methodLink RX6 183 yX2_hasHeardOf ∈ lw_tbl := List.mem_of_getElem? (i := 443) (by decide +kernel)
theorem mlX6_187 : Cond.methodLink RX6 187 yX2_heardLowAt ∈ lw_tbl := List.mem_of_getElem? (i := 444) (by decide +kernel)
theorem mlX6_191 : Cond.methodLink RX6 191 yX2_heardHighAt ∈ lw_tbl := List.mem_of_getElem? (i := 449) (by decide +kernel)
theorem mlX6_194 : Cond.methodLink RX6 194 yX6_gather ∈ lw_tbl := List.mem_of_getElem? (i := 457) (by decide +kernel)
theorem mlX6_198 : Cond.methodLink RX6 198 yX0_having ∈ lw_tbl := List.mem_of_getElem? (i := 469) (by decide +kernel)
theorem mlX6_205 : Cond.methodLink RX6 205 yX0_pieces ∈ lw_tbl := List.mem_of_getElem? (i := 477) (by decide +kernel)
theorem mlX6_209 : Cond.methodLink RX6 209 yX0_least ∈ lw_tbl := List.mem_of_getElem? (i := 486) (by decide +kernel)
theorem mlX6_213 : Cond.methodLink RX6 213 yX0_greatest ∈ lw_tbl := List.mem_of_getElem? (i := 491) (by decide +kernel)
theorem mlX6_216 : Cond.methodLink RX6 216 yX0_apartFrom ∈ lw_tbl := List.mem_of_getElem? (i := 495) (by decide +kernel)
theorem mlX6_220 : Cond.methodLink RX6 220 yX6_noteMeeting ∈ lw_tbl := List.mem_of_getElem? (i := 503) (by decide +kernel)
theorem mlX6_224 : Cond.methodLink RX6 224 yX2_forgetHeard ∈ lw_tbl := List.mem_of_getElem? (i := 507) (by decide +kernel)
theorem mlX6_231 : Cond.methodLink RX6 231 yX4_put ∈ lw_tbl := List.mem_of_getElem? (i := 511) (by decide +kernel)
theorem mlX6_240 : Cond.methodLink RX6 240 yX6_floorOf ∈ lw_tbl := List.mem_of_getElem? (i := 319) (by decide +kernel)
theorem mlX6_244 : Cond.methodLink RX6 244 yJ9_max_f86c9 ∈ lw_tbl := List.mem_of_getElem? (i := 516) (by decide +kernel)
theorem mlX6_247 : Cond.methodLink RX6 247 yJ9_min_f86c9 ∈ lw_tbl := List.mem_of_getElem? (i := 519) (by decide +kernel)
theorem mlX6_250 : Cond.methodLink RX6 250 yX5_init ∈ lw_tbl := List.mem_of_getElem? (i := 527) (by decide +kernel)
theorem mlX6_253 : Cond.methodLink RX6 253 yX6_findStamp ∈ lw_tbl := List.mem_of_getElem? (i := 552) (by decide +kernel)
theorem mlX6_267 : Cond.methodLink RX6 267 yX6_latestStamped ∈ lw_tbl := List.mem_of_getElem? (i := 565) (by decide +kernel)
theorem mlX6_275 : Cond.methodLink RX6 275 yX6_countFor ∈ lw_tbl := List.mem_of_getElem? (i := 569) (by decide +kernel)
theorem mlX6_282 : Cond.methodLink RX6 282 yX3_addEvent ∈ lw_tbl := List.mem_of_getElem? (i := 576) (by decide +kernel)
theorem mlX6_285 : Cond.methodLink RX6 285 yX3_hasEvent ∈ lw_tbl := List.mem_of_getElem? (i := 585) (by decide +kernel)
theorem mlX6_291 : Cond.methodLink RX6 291 yX3_addLink ∈ lw_tbl := List.mem_of_getElem? (i := 589) (by decide +kernel)
theorem mlX6_295 : Cond.methodLink RX6 295 yX3_settle ∈ lw_tbl := List.mem_of_getElem? (i := 598) (by decide +kernel)
theorem mlX6_315 : Cond.methodLink RX6 315 yX6_howManyUnderWay ∈ lw_tbl := List.mem_of_getElem? (i := 650) (by decide +kernel)
theorem mlX6_318 : Cond.methodLink RX6 318 yX1_isUnderWay ∈ lw_tbl := List.mem_of_getElem? (i := 406) (by decide +kernel)
theorem mlX6_322 : Cond.methodLink RX6 322 yX0_clear ∈ lw_tbl := List.mem_of_getElem? (i := 461) (by decide +kernel)
theorem mlX6_325 : Cond.methodLink RX6 325 yX0_add ∈ lw_tbl := List.mem_of_getElem? (i := 465) (by decide +kernel)
theorem mlX6_332 : Cond.methodLink RX6 332 yJ9_floorDiv_f86c9 ∈ lw_tbl := List.mem_of_getElem? (i := 300) (by decide +kernel)
theorem mlX6_335 : Cond.methodLink RX6 335 yX6_ceilOf ∈ lw_tbl := List.mem_of_getElem? (i := 331) (by decide +kernel)
theorem mlX7_1 : Cond.methodLink RX7 1 objectInit ∈ lw_tbl := List.mem_of_getElem? (i := 659) (by decide +kernel)
theorem mlX7_135 : Cond.methodLink RX7 135 yX7_floor ∈ lw_tbl := List.mem_of_getElem? (i := 862) (by decide +kernel)
theorem mlX7_143 : Cond.methodLink RX7 143 yX7_in ∈ lw_tbl := List.mem_of_getElem? (i := 823) (by decide +kernel)
theorem mlX7_163 : Cond.methodLink RX7 163 yX7_isMember ∈ lw_tbl := List.mem_of_getElem? (i := 839) (by decide +kernel)
theorem mlX7_173 : Cond.methodLink RX7 173 yX7_counterOf ∈ lw_tbl := List.mem_of_getElem? (i := 858) (by decide +kernel)
theorem mlX7_177 : Cond.methodLink RX7 177 yX7_ceil ∈ lw_tbl := List.mem_of_getElem? (i := 885) (by decide +kernel)
theorem mlX7_180 : Cond.methodLink RX7 180 yX7_atLeast ∈ lw_tbl := List.mem_of_getElem? (i := 873) (by decide +kernel)
theorem mlX7_184 : Cond.methodLink RX7 184 yX7_atMost ∈ lw_tbl := List.mem_of_getElem? (i := 881) (by decide +kernel)
theorem mlX7_187 : Cond.methodLink RX7 187 yX7_lowOf ∈ lw_tbl := List.mem_of_getElem? (i := 869) (by decide +kernel)
theorem mlX7_190 : Cond.methodLink RX7 190 yX7_highOf ∈ lw_tbl := List.mem_of_getElem? (i := 877) (by decide +kernel)
theorem mlX7_193 : Cond.methodLink RX7 193 yX7_heardMany ∈ lw_tbl := List.mem_of_getElem? (i := 888) (by decide +kernel)
theorem mlX7_200 : Cond.methodLink RX7 200 yX7_isUnderWay ∈ lw_tbl := List.mem_of_getElem? (i := 900) (by decide +kernel)
theorem mlX7_205 : Cond.methodLink RX7 205 yX7_heardLowOf ∈ lw_tbl := List.mem_of_getElem? (i := 921) (by decide +kernel)
theorem mlX7_209 : Cond.methodLink RX7 209 yX7_heardHighOf ∈ lw_tbl := List.mem_of_getElem? (i := 925) (by decide +kernel)
theorem mlX7_215 : Cond.methodLink RX7 215 yX7_gather ∈ lw_tbl := List.mem_of_getElem? (i := 933) (by decide +kernel)
theorem mlX7_219 : Cond.methodLink RX7 219 yX7_votesFor ∈ lw_tbl := List.mem_of_getElem? (i := 937) (by decide +kernel)
theorem mlX7_235 : Cond.methodLink RX7 235 yX7_findCouncil ∈ lw_tbl := List.mem_of_getElem? (i := 945) (by decide +kernel)
theorem mlX7_241 : Cond.methodLink RX7 241 yX7_isStamp ∈ lw_tbl := List.mem_of_getElem? (i := 965) (by decide +kernel)
theorem mlX7_249 : Cond.methodLink RX7 249 yX7_isEvent ∈ lw_tbl := List.mem_of_getElem? (i := 986) (by decide +kernel)
theorem mlX7_255 : Cond.methodLink RX7 255 yX7_findLongest ∈ lw_tbl := List.mem_of_getElem? (i := 994) (by decide +kernel)
theorem mlX7_259 : Cond.methodLink RX7 259 yX7_mend ∈ lw_tbl := List.mem_of_getElem? (i := 1006) (by decide +kernel)
theorem mlX7_263 : Cond.methodLink RX7 263 yX7_findTimes ∈ lw_tbl := List.mem_of_getElem? (i := 1002) (by decide +kernel)
theorem mlX7_266 : Cond.methodLink RX7 266 yX7_ringFrom ∈ lw_tbl := List.mem_of_getElem? (i := 1015) (by decide +kernel)
theorem nlX1_63 : (RX1, 63, yX6_atMost, RX6) ∈ nW := by decide +kernel
theorem nlX2_36 : (RX2, 36, yX4_init, RX6) ∈ nW := by decide +kernel
theorem nlX2_52 : (RX2, 52, yX6_floorOf, RX6) ∈ nW := by decide +kernel
theorem nlX3_84 : (RX3, 84, yX6_ceilOf, RX6) ∈ nW := by decide +kernel
theorem nlX4_23 : (RX4, 23, yX6_atLeast, RX6) ∈ nW := by decide +kernel
theorem nlX4_29 : (RX4, 29, yX6_atMost, RX6) ∈ nW := by decide +kernel
theorem cnL_27 : Cond.constantLong RL 27 (4294967295) ∈ lw_tbl := List.mem_of_getElem? (i := 1023) (by decide +kernel)
theorem cnX0_26 : Cond.constantLong RX0 26 (-9000000000000000000) ∈ lw_tbl := List.mem_of_getElem? (i := 490) (by decide +kernel)
theorem cnX2_81 : Cond.constantLong RX2 81 (-9000000000000000000) ∈ lw_tbl := List.mem_of_getElem? (i := 448) (by decide +kernel)
theorem cnX3_44 : Cond.constantLong RX3 44 (-9000000000000000000) ∈ lw_tbl := List.mem_of_getElem? (i := 580) (by decide +kernel)
theorem cnX3_64 : Cond.constantLong RX3 64 (-1) ∈ lw_tbl := List.mem_of_getElem? (i := 610) (by decide +kernel)
theorem cnX3_82 : Cond.constantLong RX3 82 (2) ∈ lw_tbl := List.mem_of_getElem? (i := 627) (by decide +kernel)
theorem cnX6_55 : Cond.constant RX6 55 (1000000) ∈ lw_tbl := List.mem_of_getElem? (i := 162) (by decide +kernel)
theorem cnX6_56 : Cond.constantLong RX6 56 (1000000000) ∈ lw_tbl := List.mem_of_getElem? (i := 163) (by decide +kernel)
theorem cnX6_58 : Cond.constantLong RX6 58 (-9000000000000000000) ∈ lw_tbl := List.mem_of_getElem? (i := 164) (by decide +kernel)
theorem cnX6_60 : Cond.constant RX6 60 (100000) ∈ lw_tbl := List.mem_of_getElem? (i := 169) (by decide +kernel)
theorem cnX6_83 : Cond.constantLong RX6 83 (1000) ∈ lw_tbl := List.mem_of_getElem? (i := 275) (by decide +kernel)
theorem cnX6_95 : Cond.constantLong RX6 95 (-1000000000000) ∈ lw_tbl := List.mem_of_getElem? (i := 283) (by decide +kernel)
theorem cnX6_97 : Cond.constantLong RX6 97 (1000000000000) ∈ lw_tbl := List.mem_of_getElem? (i := 284) (by decide +kernel)
theorem cnX6_163 : Cond.constantLong RX6 163 (2) ∈ lw_tbl := List.mem_of_getElem? (i := 426) (by decide +kernel)
theorem cnX6_265 : Cond.constantLong RX6 265 (-1) ∈ lw_tbl := List.mem_of_getElem? (i := 560) (by decide +kernel)
theorem cnX7_147 : Cond.constantLong RX7 147 (1000000) ∈ lw_tbl := List.mem_of_getElem? (i := 822) (by decide +kernel)
theorem cnX7_153 : Cond.constantLong RX7 153 (1000000000) ∈ lw_tbl := List.mem_of_getElem? (i := 826) (by decide +kernel)
theorem cnX7_155 : Cond.constantLong RX7 155 (-9000000000000000000) ∈ lw_tbl := List.mem_of_getElem? (i := 827) (by decide +kernel)
theorem cnX7_157 : Cond.constantLong RX7 157 (4) ∈ lw_tbl := List.mem_of_getElem? (i := 832) (by decide +kernel)
theorem cnX7_159 : Cond.constantLong RX7 159 (200) ∈ lw_tbl := List.mem_of_getElem? (i := 833) (by decide +kernel)
theorem cnX7_161 : Cond.constantLong RX7 161 (100000) ∈ lw_tbl := List.mem_of_getElem? (i := 834) (by decide +kernel)
theorem cnX7_167 : Cond.constantLong RX7 167 (1000) ∈ lw_tbl := List.mem_of_getElem? (i := 843) (by decide +kernel)
theorem cnX7_169 : Cond.constantLong RX7 169 (-1000000000000) ∈ lw_tbl := List.mem_of_getElem? (i := 848) (by decide +kernel)
theorem cnX7_171 : Cond.constantLong RX7 171 (1000000000000) ∈ lw_tbl := List.mem_of_getElem? (i := 849) (by decide +kernel)
theorem cnX7_203 : Cond.constantLong RX7 203 (2) ∈ lw_tbl := List.mem_of_getElem? (i := 904) (by decide +kernel)
theorem cnX7_244 : Cond.constantLong RX7 244 (-1) ∈ lw_tbl := List.mem_of_getElem? (i := 973) (by decide +kernel)
theorem clL_7 : Cond.classLink RL 7 RX6 ∈ lw_tbl := List.mem_of_getElem? (i := 37) (by decide +kernel)
theorem clL_10 : Cond.classLink RL 10 RX7 ∈ lw_tbl := List.mem_of_getElem? (i := 654) (by decide +kernel)
theorem clX2_34 : Cond.classLink RX2 34 RX4 ∈ lw_tbl := List.mem_of_getElem? (i := 175) (by decide +kernel)
theorem clX6_13 : Cond.classLink RX6 13 RX2 ∈ lw_tbl := List.mem_of_getElem? (i := 45) (by decide +kernel)
theorem clX6_23 : Cond.classLink RX6 23 RX1 ∈ lw_tbl := List.mem_of_getElem? (i := 47) (by decide +kernel)
theorem clX6_32 : Cond.classLink RX6 32 RX5 ∈ lw_tbl := List.mem_of_getElem? (i := 49) (by decide +kernel)
theorem clX6_41 : Cond.classLink RX6 41 RX0 ∈ lw_tbl := List.mem_of_getElem? (i := 51) (by decide +kernel)
theorem clX6_48 : Cond.classLink RX6 48 RX3 ∈ lw_tbl := List.mem_of_getElem? (i := 74) (by decide +kernel)
theorem nsX0 : Cond.instantiable RX0 4 ∈ lw_tbl := List.mem_of_getElem? (i := 52) (by decide +kernel)
theorem nzX0 : Cond.initialized RX0 ∈ lw_tbl := List.mem_of_getElem? (i := 29) (by decide +kernel)
theorem nsX1 : Cond.instantiable RX1 7 ∈ lw_tbl := List.mem_of_getElem? (i := 356) (by decide +kernel)
theorem nzX1 : Cond.initialized RX1 ∈ lw_tbl := List.mem_of_getElem? (i := 35) (by decide +kernel)
theorem nsX2 : Cond.instantiable RX2 16 ∈ lw_tbl := List.mem_of_getElem? (i := 170) (by decide +kernel)
theorem nzX2 : Cond.initialized RX2 ∈ lw_tbl := List.mem_of_getElem? (i := 32) (by decide +kernel)
theorem nsX3 : Cond.instantiable RX3 14 ∈ lw_tbl := List.mem_of_getElem? (i := 75) (by decide +kernel)
theorem nzX3 : Cond.initialized RX3 ∈ lw_tbl := List.mem_of_getElem? (i := 30) (by decide +kernel)
theorem nsX4 : Cond.instantiable RX4 4 ∈ lw_tbl := List.mem_of_getElem? (i := 176) (by decide +kernel)
theorem nzX4 : Cond.initialized RX4 ∈ lw_tbl := List.mem_of_getElem? (i := 33) (by decide +kernel)
theorem nsX5 : Cond.instantiable RX5 4 ∈ lw_tbl := List.mem_of_getElem? (i := 526) (by decide +kernel)
theorem nzX5 : Cond.initialized RX5 ∈ lw_tbl := List.mem_of_getElem? (i := 36) (by decide +kernel)
theorem nsX6 : Cond.instantiable RX6 9 ∈ lw_tbl := List.mem_of_getElem? (i := 38) (by decide +kernel)
theorem nzX6 : Cond.initialized RX6 ∈ lw_tbl := List.mem_of_getElem? (i := 28) (by decide +kernel)
theorem nsX7 : Cond.instantiable RX7 52 ∈ lw_tbl := List.mem_of_getElem? (i := 655) (by decide +kernel)
theorem nzX7 : Cond.initialized RX7 ∈ lw_tbl := List.mem_of_getElem? (i := 31) (by decide +kernel)
theorem stJ9_abs_067f4 : Cond.static yJ9_abs_067f4 ∈ lw_tbl := List.mem_of_getElem? (i := 273) (by decide +kernel)
theorem stJ9_floorDiv_f86c9 : Cond.static yJ9_floorDiv_f86c9 ∈ lw_tbl := List.mem_of_getElem? (i := 301) (by decide +kernel)
theorem stJ9_max_f86c9 : Cond.static yJ9_max_f86c9 ∈ lw_tbl := List.mem_of_getElem? (i := 517) (by decide +kernel)
theorem stJ9_min_f86c9 : Cond.static yJ9_min_f86c9 ∈ lw_tbl := List.mem_of_getElem? (i := 520) (by decide +kernel)
theorem stX6_asBit : Cond.static yX6_asBit ∈ lw_tbl := List.mem_of_getElem? (i := 277) (by decide +kernel)
theorem stX6_atLeast : Cond.static yX6_atLeast ∈ lw_tbl := List.mem_of_getElem? (i := 317) (by decide +kernel)
theorem stX6_atMost : Cond.static yX6_atMost ∈ lw_tbl := List.mem_of_getElem? (i := 329) (by decide +kernel)
theorem stX6_ceilOf : Cond.static yX6_ceilOf ∈ lw_tbl := List.mem_of_getElem? (i := 332) (by decide +kernel)
theorem stX6_countFor : Cond.static yX6_countFor ∈ lw_tbl := List.mem_of_getElem? (i := 570) (by decide +kernel)
theorem stX6_floorOf : Cond.static yX6_floorOf ∈ lw_tbl := List.mem_of_getElem? (i := 298) (by decide +kernel)
theorem stX7_ceil : Cond.static yX7_ceil ∈ lw_tbl := List.mem_of_getElem? (i := 886) (by decide +kernel)
theorem stX7_floor : Cond.static yX7_floor ∈ lw_tbl := List.mem_of_getElem? (i := 863) (by decide +kernel)
theorem stX7_in : Cond.static yX7_in ∈ lw_tbl := List.mem_of_getElem? (i := 824) (by decide +kernel)
theorem imX0_add : Cond.instanceMethod yX0_add ∈ lw_tbl := List.mem_of_getElem? (i := 466) (by decide +kernel)
theorem imX0_apartFrom : Cond.instanceMethod yX0_apartFrom ∈ lw_tbl := List.mem_of_getElem? (i := 496) (by decide +kernel)
theorem imX0_beganBefore : Cond.instanceMethod yX0_beganBefore ∈ lw_tbl := List.mem_of_getElem? (i := 483) (by decide +kernel)
theorem imX0_clear : Cond.instanceMethod yX0_clear ∈ lw_tbl := List.mem_of_getElem? (i := 462) (by decide +kernel)
theorem imX0_greatest : Cond.instanceMethod yX0_greatest ∈ lw_tbl := List.mem_of_getElem? (i := 492) (by decide +kernel)
theorem imX0_having : Cond.instanceMethod yX0_having ∈ lw_tbl := List.mem_of_getElem? (i := 470) (by decide +kernel)
theorem imX0_init : Cond.instanceMethod yX0_init ∈ lw_tbl := List.mem_of_getElem? (i := 54) (by decide +kernel)
theorem imX0_least : Cond.instanceMethod yX0_least ∈ lw_tbl := List.mem_of_getElem? (i := 487) (by decide +kernel)
theorem imX0_pieces : Cond.instanceMethod yX0_pieces ∈ lw_tbl := List.mem_of_getElem? (i := 478) (by decide +kernel)
theorem imX1_bringBack : Cond.instanceMethod yX1_bringBack ∈ lw_tbl := List.mem_of_getElem? (i := 417) (by decide +kernel)
theorem imX1_init : Cond.instanceMethod yX1_init ∈ lw_tbl := List.mem_of_getElem? (i := 358) (by decide +kernel)
theorem imX1_isUnderWay : Cond.instanceMethod yX1_isUnderWay ∈ lw_tbl := List.mem_of_getElem? (i := 407) (by decide +kernel)
theorem imX1_takeAnswer : Cond.instanceMethod yX1_takeAnswer ∈ lw_tbl := List.mem_of_getElem? (i := 411) (by decide +kernel)
theorem imX2_countedAt : Cond.instanceMethod yX2_countedAt ∈ lw_tbl := List.mem_of_getElem? (i := 294) (by decide +kernel)
theorem imX2_forgetHeard : Cond.instanceMethod yX2_forgetHeard ∈ lw_tbl := List.mem_of_getElem? (i := 508) (by decide +kernel)
theorem imX2_hasHeardOf : Cond.instanceMethod yX2_hasHeardOf ∈ lw_tbl := List.mem_of_getElem? (i := 345) (by decide +kernel)
theorem imX2_hear : Cond.instanceMethod yX2_hear ∈ lw_tbl := List.mem_of_getElem? (i := 423) (by decide +kernel)
theorem imX2_heardHighAt : Cond.instanceMethod yX2_heardHighAt ∈ lw_tbl := List.mem_of_getElem? (i := 450) (by decide +kernel)
theorem imX2_heardLowAt : Cond.instanceMethod yX2_heardLowAt ∈ lw_tbl := List.mem_of_getElem? (i := 445) (by decide +kernel)
theorem imX2_highAt : Cond.instanceMethod yX2_highAt ∈ lw_tbl := List.mem_of_getElem? (i := 321) (by decide +kernel)
theorem imX2_holds : Cond.instanceMethod yX2_holds ∈ lw_tbl := List.mem_of_getElem? (i := 335) (by decide +kernel)
theorem imX2_howManyHeard : Cond.instanceMethod yX2_howManyHeard ∈ lw_tbl := List.mem_of_getElem? (i := 341) (by decide +kernel)
theorem imX2_init : Cond.instanceMethod yX2_init ∈ lw_tbl := List.mem_of_getElem? (i := 172) (by decide +kernel)
theorem imX2_lowAt : Cond.instanceMethod yX2_lowAt ∈ lw_tbl := List.mem_of_getElem? (i := 308) (by decide +kernel)
theorem imX2_spanOf : Cond.instanceMethod yX2_spanOf ∈ lw_tbl := List.mem_of_getElem? (i := 349) (by decide +kernel)
theorem imX3_addEvent : Cond.instanceMethod yX3_addEvent ∈ lw_tbl := List.mem_of_getElem? (i := 577) (by decide +kernel)
theorem imX3_addLink : Cond.instanceMethod yX3_addLink ∈ lw_tbl := List.mem_of_getElem? (i := 590) (by decide +kernel)
theorem imX3_findEarliest : Cond.instanceMethod yX3_findEarliest ∈ lw_tbl := List.mem_of_getElem? (i := 603) (by decide +kernel)
theorem imX3_findRing : Cond.instanceMethod yX3_findRing ∈ lw_tbl := List.mem_of_getElem? (i := 612) (by decide +kernel)
theorem imX3_findWidening : Cond.instanceMethod yX3_findWidening ∈ lw_tbl := List.mem_of_getElem? (i := 624) (by decide +kernel)
theorem imX3_hasEvent : Cond.instanceMethod yX3_hasEvent ∈ lw_tbl := List.mem_of_getElem? (i := 586) (by decide +kernel)
theorem imX3_init : Cond.instanceMethod yX3_init ∈ lw_tbl := List.mem_of_getElem? (i := 77) (by decide +kernel)
theorem imX3_measureTo : Cond.instanceMethod yX3_measureTo ∈ lw_tbl := List.mem_of_getElem? (i := 616) (by decide +kernel)
theorem imX3_nearestAfter : Cond.instanceMethod yX3_nearestAfter ∈ lw_tbl := List.mem_of_getElem? (i := 620) (by decide +kernel)
theorem imX3_raiseOnce : Cond.instanceMethod yX3_raiseOnce ∈ lw_tbl := List.mem_of_getElem? (i := 607) (by decide +kernel)
theorem imX3_rank : Cond.instanceMethod yX3_rank ∈ lw_tbl := List.mem_of_getElem? (i := 631) (by decide +kernel)
theorem imX3_settle : Cond.instanceMethod yX3_settle ∈ lw_tbl := List.mem_of_getElem? (i := 599) (by decide +kernel)
theorem imX4_highWhen : Cond.instanceMethod yX4_highWhen ∈ lw_tbl := List.mem_of_getElem? (i := 325) (by decide +kernel)
theorem imX4_init : Cond.instanceMethod yX4_init ∈ lw_tbl := List.mem_of_getElem? (i := 178) (by decide +kernel)
theorem imX4_lowWhen : Cond.instanceMethod yX4_lowWhen ∈ lw_tbl := List.mem_of_getElem? (i := 313) (by decide +kernel)
theorem imX4_put : Cond.instanceMethod yX4_put ∈ lw_tbl := List.mem_of_getElem? (i := 198) (by decide +kernel)
theorem imX5_init : Cond.instanceMethod yX5_init ∈ lw_tbl := List.mem_of_getElem? (i := 528) (by decide +kernel)
theorem imX6_addLetter : Cond.instanceMethod yX6_addLetter ∈ lw_tbl := List.mem_of_getElem? (i := 392) (by decide +kernel)
theorem imX6_ahead : Cond.instanceMethod yX6_ahead ∈ lw_tbl := List.mem_of_getElem? (i := 557) (by decide +kernel)
theorem imX6_ask : Cond.instanceMethod yX6_ask ∈ lw_tbl := List.mem_of_getElem? (i := 353) (by decide +kernel)
theorem imX6_council : Cond.instanceMethod yX6_council ∈ lw_tbl := List.mem_of_getElem? (i := 474) (by decide +kernel)
theorem imX6_count : Cond.instanceMethod yX6_count ∈ lw_tbl := List.mem_of_getElem? (i := 647) (by decide +kernel)
theorem imX6_counter : Cond.instanceMethod yX6_counter ∈ lw_tbl := List.mem_of_getElem? (i := 290) (by decide +kernel)
theorem imX6_deliver : Cond.instanceMethod yX6_deliver ∈ lw_tbl := List.mem_of_getElem? (i := 395) (by decide +kernel)
theorem imX6_event : Cond.instanceMethod yX6_event ∈ lw_tbl := List.mem_of_getElem? (i := 573) (by decide +kernel)
theorem imX6_findLetter : Cond.instanceMethod yX6_findLetter ∈ lw_tbl := List.mem_of_getElem? (i := 404) (by decide +kernel)
theorem imX6_findMember : Cond.instanceMethod yX6_findMember ∈ lw_tbl := List.mem_of_getElem? (i := 270) (by decide +kernel)
theorem imX6_findStamp : Cond.instanceMethod yX6_findStamp ∈ lw_tbl := List.mem_of_getElem? (i := 554) (by decide +kernel)
theorem imX6_findUnderWay : Cond.instanceMethod yX6_findUnderWay ∈ lw_tbl := List.mem_of_getElem? (i := 400) (by decide +kernel)
theorem imX6_gather : Cond.instanceMethod yX6_gather ∈ lw_tbl := List.mem_of_getElem? (i := 459) (by decide +kernel)
theorem imX6_given : Cond.instanceMethod yX6_given ∈ lw_tbl := List.mem_of_getElem? (i := 549) (by decide +kernel)
theorem imX6_go : Cond.instanceMethod yX6_go ∈ lw_tbl := List.mem_of_getElem? (i := 159) (by decide +kernel)
theorem imX6_heard : Cond.instanceMethod yX6_heard ∈ lw_tbl := List.mem_of_getElem? (i := 440) (by decide +kernel)
theorem imX6_howManyUnderWay : Cond.instanceMethod yX6_howManyUnderWay ∈ lw_tbl := List.mem_of_getElem? (i := 652) (by decide +kernel)
theorem imX6_init : Cond.instanceMethod yX6_init ∈ lw_tbl := List.mem_of_getElem? (i := 40) (by decide +kernel)
theorem imX6_latestStamped : Cond.instanceMethod yX6_latestStamped ∈ lw_tbl := List.mem_of_getElem? (i := 567) (by decide +kernel)
theorem imX6_lead : Cond.instanceMethod yX6_lead ∈ lw_tbl := List.mem_of_getElem? (i := 513) (by decide +kernel)
theorem imX6_letter : Cond.instanceMethod yX6_letter ∈ lw_tbl := List.mem_of_getElem? (i := 436) (by decide +kernel)
theorem imX6_lie : Cond.instanceMethod yX6_lie ∈ lw_tbl := List.mem_of_getElem? (i := 280) (by decide +kernel)
theorem imX6_link : Cond.instanceMethod yX6_link ∈ lw_tbl := List.mem_of_getElem? (i := 582) (by decide +kernel)
theorem imX6_lose : Cond.instanceMethod yX6_lose ∈ lw_tbl := List.mem_of_getElem? (i := 428) (by decide +kernel)
theorem imX6_meet : Cond.instanceMethod yX6_meet ∈ lw_tbl := List.mem_of_getElem? (i := 500) (by decide +kernel)
theorem imX6_member : Cond.instanceMethod yX6_member ∈ lw_tbl := List.mem_of_getElem? (i := 166) (by decide +kernel)
theorem imX6_mend : Cond.instanceMethod yX6_mend ∈ lw_tbl := List.mem_of_getElem? (i := 595) (by decide +kernel)
theorem imX6_noteMeeting : Cond.instanceMethod yX6_noteMeeting ∈ lw_tbl := List.mem_of_getElem? (i := 505) (by decide +kernel)
theorem imX6_of : Cond.instanceMethod yX6_of ∈ lw_tbl := List.mem_of_getElem? (i := 304) (by decide +kernel)
theorem imX6_order : Cond.instanceMethod yX6_order ∈ lw_tbl := List.mem_of_getElem? (i := 635) (by decide +kernel)
theorem imX6_rate : Cond.instanceMethod yX6_rate ∈ lw_tbl := List.mem_of_getElem? (i := 265) (by decide +kernel)
theorem imX6_rest : Cond.instanceMethod yX6_rest ∈ lw_tbl := List.mem_of_getElem? (i := 286) (by decide +kernel)
theorem imX6_ring : Cond.instanceMethod yX6_ring ∈ lw_tbl := List.mem_of_getElem? (i := 643) (by decide +kernel)
theorem imX6_stamp : Cond.instanceMethod yX6_stamp ∈ lw_tbl := List.mem_of_getElem? (i := 523) (by decide +kernel)
theorem imX6_time : Cond.instanceMethod yX6_time ∈ lw_tbl := List.mem_of_getElem? (i := 639) (by decide +kernel)
theorem imX6_twice : Cond.instanceMethod yX6_twice ∈ lw_tbl := List.mem_of_getElem? (i := 432) (by decide +kernel)
theorem imX6_votes : Cond.instanceMethod yX6_votes ∈ lw_tbl := List.mem_of_getElem? (i := 454) (by decide +kernel)
theorem imX6_wait : Cond.instanceMethod yX6_wait ∈ lw_tbl := List.mem_of_getElem? (i := 562) (by decide +kernel)
theorem imX7_ahead : Cond.instanceMethod yX7_ahead ∈ lw_tbl := List.mem_of_getElem? (i := 970) (by decide +kernel)
theorem imX7_ask : Cond.instanceMethod yX7_ask ∈ lw_tbl := List.mem_of_getElem? (i := 893) (by decide +kernel)
theorem imX7_atLeast : Cond.instanceMethod yX7_atLeast ∈ lw_tbl := List.mem_of_getElem? (i := 875) (by decide +kernel)
theorem imX7_atMost : Cond.instanceMethod yX7_atMost ∈ lw_tbl := List.mem_of_getElem? (i := 883) (by decide +kernel)
theorem imX7_council : Cond.instanceMethod yX7_council ∈ lw_tbl := List.mem_of_getElem? (i := 942) (by decide +kernel)
theorem imX7_count : Cond.instanceMethod yX7_count ∈ lw_tbl := List.mem_of_getElem? (i := 1020) (by decide +kernel)
theorem imX7_counter : Cond.instanceMethod yX7_counter ∈ lw_tbl := List.mem_of_getElem? (i := 855) (by decide +kernel)
theorem imX7_counterOf : Cond.instanceMethod yX7_counterOf ∈ lw_tbl := List.mem_of_getElem? (i := 860) (by decide +kernel)
theorem imX7_deliver : Cond.instanceMethod yX7_deliver ∈ lw_tbl := List.mem_of_getElem? (i := 897) (by decide +kernel)
theorem imX7_event : Cond.instanceMethod yX7_event ∈ lw_tbl := List.mem_of_getElem? (i := 979) (by decide +kernel)
theorem imX7_findCouncil : Cond.instanceMethod yX7_findCouncil ∈ lw_tbl := List.mem_of_getElem? (i := 947) (by decide +kernel)
theorem imX7_findLongest : Cond.instanceMethod yX7_findLongest ∈ lw_tbl := List.mem_of_getElem? (i := 996) (by decide +kernel)
theorem imX7_findTimes : Cond.instanceMethod yX7_findTimes ∈ lw_tbl := List.mem_of_getElem? (i := 1004) (by decide +kernel)
theorem imX7_gather : Cond.instanceMethod yX7_gather ∈ lw_tbl := List.mem_of_getElem? (i := 935) (by decide +kernel)
theorem imX7_given : Cond.instanceMethod yX7_given ∈ lw_tbl := List.mem_of_getElem? (i := 962) (by decide +kernel)
theorem imX7_go : Cond.instanceMethod yX7_go ∈ lw_tbl := List.mem_of_getElem? (i := 819) (by decide +kernel)
theorem imX7_heard : Cond.instanceMethod yX7_heard ∈ lw_tbl := List.mem_of_getElem? (i := 918) (by decide +kernel)
theorem imX7_heardHighOf : Cond.instanceMethod yX7_heardHighOf ∈ lw_tbl := List.mem_of_getElem? (i := 927) (by decide +kernel)
theorem imX7_heardLowOf : Cond.instanceMethod yX7_heardLowOf ∈ lw_tbl := List.mem_of_getElem? (i := 923) (by decide +kernel)
theorem imX7_heardMany : Cond.instanceMethod yX7_heardMany ∈ lw_tbl := List.mem_of_getElem? (i := 890) (by decide +kernel)
theorem imX7_highOf : Cond.instanceMethod yX7_highOf ∈ lw_tbl := List.mem_of_getElem? (i := 879) (by decide +kernel)
theorem imX7_init : Cond.instanceMethod yX7_init ∈ lw_tbl := List.mem_of_getElem? (i := 657) (by decide +kernel)
theorem imX7_isEvent : Cond.instanceMethod yX7_isEvent ∈ lw_tbl := List.mem_of_getElem? (i := 988) (by decide +kernel)
theorem imX7_isMember : Cond.instanceMethod yX7_isMember ∈ lw_tbl := List.mem_of_getElem? (i := 841) (by decide +kernel)
theorem imX7_isStamp : Cond.instanceMethod yX7_isStamp ∈ lw_tbl := List.mem_of_getElem? (i := 967) (by decide +kernel)
theorem imX7_isUnderWay : Cond.instanceMethod yX7_isUnderWay ∈ lw_tbl := List.mem_of_getElem? (i := 902) (by decide +kernel)
theorem imX7_lead : Cond.instanceMethod yX7_lead ∈ lw_tbl := List.mem_of_getElem? (i := 954) (by decide +kernel)
theorem imX7_letter : Cond.instanceMethod yX7_letter ∈ lw_tbl := List.mem_of_getElem? (i := 914) (by decide +kernel)
theorem imX7_lie : Cond.instanceMethod yX7_lie ∈ lw_tbl := List.mem_of_getElem? (i := 845) (by decide +kernel)
theorem imX7_link : Cond.instanceMethod yX7_link ∈ lw_tbl := List.mem_of_getElem? (i := 983) (by decide +kernel)
theorem imX7_lose : Cond.instanceMethod yX7_lose ∈ lw_tbl := List.mem_of_getElem? (i := 906) (by decide +kernel)
theorem imX7_lowOf : Cond.instanceMethod yX7_lowOf ∈ lw_tbl := List.mem_of_getElem? (i := 871) (by decide +kernel)
theorem imX7_meet : Cond.instanceMethod yX7_meet ∈ lw_tbl := List.mem_of_getElem? (i := 950) (by decide +kernel)
theorem imX7_member : Cond.instanceMethod yX7_member ∈ lw_tbl := List.mem_of_getElem? (i := 829) (by decide +kernel)
theorem imX7_mend : Cond.instanceMethod yX7_mend ∈ lw_tbl := List.mem_of_getElem? (i := 991) (by decide +kernel)
theorem imX7_of : Cond.instanceMethod yX7_of ∈ lw_tbl := List.mem_of_getElem? (i := 866) (by decide +kernel)
theorem imX7_order : Cond.instanceMethod yX7_order ∈ lw_tbl := List.mem_of_getElem? (i := 999) (by decide +kernel)
theorem imX7_rate : Cond.instanceMethod yX7_rate ∈ lw_tbl := List.mem_of_getElem? (i := 836) (by decide +kernel)
theorem imX7_rest : Cond.instanceMethod yX7_rest ∈ lw_tbl := List.mem_of_getElem? (i := 851) (by decide +kernel)
theorem imX7_ring : Cond.instanceMethod yX7_ring ∈ lw_tbl := List.mem_of_getElem? (i := 1012) (by decide +kernel)
theorem imX7_ringFrom : Cond.instanceMethod yX7_ringFrom ∈ lw_tbl := List.mem_of_getElem? (i := 1017) (by decide +kernel)
theorem imX7_stamp : Cond.instanceMethod yX7_stamp ∈ lw_tbl := List.mem_of_getElem? (i := 958) (by decide +kernel)
theorem imX7_time : Cond.instanceMethod yX7_time ∈ lw_tbl := List.mem_of_getElem? (i := 1008) (by decide +kernel)
theorem imX7_twice : Cond.instanceMethod yX7_twice ∈ lw_tbl := List.mem_of_getElem? (i := 910) (by decide +kernel)
theorem imX7_votes : Cond.instanceMethod yX7_votes ∈ lw_tbl := List.mem_of_getElem? (i := 930) (by decide +kernel)
theorem imX7_votesFor : Cond.instanceMethod yX7_votesFor ∈ lw_tbl := List.mem_of_getElem? (i := 939) (by decide +kernel)
theorem imX7_wait : Cond.instanceMethod yX7_wait ∈ lw_tbl := List.mem_of_getElem? (i := 975) (by decide +kernel)
theorem seX0_add : Cond.selects yX0_add.cls yX0_add yX0_add ∈ lw_tbl := List.mem_of_getElem? (i := 467) (by decide +kernel)
theorem seX0_apartFrom : Cond.selects yX0_apartFrom.cls yX0_apartFrom yX0_apartFrom ∈ lw_tbl := List.mem_of_getElem? (i := 497) (by decide +kernel)
theorem seX0_beganBefore : Cond.selects yX0_beganBefore.cls yX0_beganBefore yX0_beganBefore ∈ lw_tbl := List.mem_of_getElem? (i := 484) (by decide +kernel)
theorem seX0_clear : Cond.selects yX0_clear.cls yX0_clear yX0_clear ∈ lw_tbl := List.mem_of_getElem? (i := 463) (by decide +kernel)
theorem seX0_greatest : Cond.selects yX0_greatest.cls yX0_greatest yX0_greatest ∈ lw_tbl := List.mem_of_getElem? (i := 493) (by decide +kernel)
theorem seX0_having : Cond.selects yX0_having.cls yX0_having yX0_having ∈ lw_tbl := List.mem_of_getElem? (i := 471) (by decide +kernel)
theorem seX0_least : Cond.selects yX0_least.cls yX0_least yX0_least ∈ lw_tbl := List.mem_of_getElem? (i := 488) (by decide +kernel)
theorem seX0_pieces : Cond.selects yX0_pieces.cls yX0_pieces yX0_pieces ∈ lw_tbl := List.mem_of_getElem? (i := 479) (by decide +kernel)
theorem seX1_bringBack : Cond.selects yX1_bringBack.cls yX1_bringBack yX1_bringBack ∈ lw_tbl := List.mem_of_getElem? (i := 418) (by decide +kernel)
theorem seX1_isUnderWay : Cond.selects yX1_isUnderWay.cls yX1_isUnderWay yX1_isUnderWay ∈ lw_tbl := List.mem_of_getElem? (i := 408) (by decide +kernel)
theorem seX1_takeAnswer : Cond.selects yX1_takeAnswer.cls yX1_takeAnswer yX1_takeAnswer ∈ lw_tbl := List.mem_of_getElem? (i := 412) (by decide +kernel)
theorem seX2_countedAt : Cond.selects yX2_countedAt.cls yX2_countedAt yX2_countedAt ∈ lw_tbl := List.mem_of_getElem? (i := 295) (by decide +kernel)
theorem seX2_forgetHeard : Cond.selects yX2_forgetHeard.cls yX2_forgetHeard yX2_forgetHeard ∈ lw_tbl := List.mem_of_getElem? (i := 509) (by decide +kernel)
theorem seX2_hasHeardOf : Cond.selects yX2_hasHeardOf.cls yX2_hasHeardOf yX2_hasHeardOf ∈ lw_tbl := List.mem_of_getElem? (i := 346) (by decide +kernel)
theorem seX2_hear : Cond.selects yX2_hear.cls yX2_hear yX2_hear ∈ lw_tbl := List.mem_of_getElem? (i := 424) (by decide +kernel)
theorem seX2_heardHighAt : Cond.selects yX2_heardHighAt.cls yX2_heardHighAt yX2_heardHighAt ∈ lw_tbl := List.mem_of_getElem? (i := 451) (by decide +kernel)
theorem seX2_heardLowAt : Cond.selects yX2_heardLowAt.cls yX2_heardLowAt yX2_heardLowAt ∈ lw_tbl := List.mem_of_getElem? (i := 446) (by decide +kernel)
theorem seX2_highAt : Cond.selects yX2_highAt.cls yX2_highAt yX2_highAt ∈ lw_tbl := List.mem_of_getElem? (i := 322) (by decide +kernel)
theorem seX2_holds : Cond.selects yX2_holds.cls yX2_holds yX2_holds ∈ lw_tbl := List.mem_of_getElem? (i := 336) (by decide +kernel)
theorem seX2_howManyHeard : Cond.selects yX2_howManyHeard.cls yX2_howManyHeard yX2_howManyHeard ∈ lw_tbl := List.mem_of_getElem? (i := 342) (by decide +kernel)
theorem seX2_lowAt : Cond.selects yX2_lowAt.cls yX2_lowAt yX2_lowAt ∈ lw_tbl := List.mem_of_getElem? (i := 309) (by decide +kernel)
theorem seX2_spanOf : Cond.selects yX2_spanOf.cls yX2_spanOf yX2_spanOf ∈ lw_tbl := List.mem_of_getElem? (i := 350) (by decide +kernel)
theorem seX3_addEvent : Cond.selects yX3_addEvent.cls yX3_addEvent yX3_addEvent ∈ lw_tbl := List.mem_of_getElem? (i := 578) (by decide +kernel)
theorem seX3_addLink : Cond.selects yX3_addLink.cls yX3_addLink yX3_addLink ∈ lw_tbl := List.mem_of_getElem? (i := 591) (by decide +kernel)
theorem seX3_findEarliest : Cond.selects yX3_findEarliest.cls yX3_findEarliest yX3_findEarliest ∈ lw_tbl := List.mem_of_getElem? (i := 604) (by decide +kernel)
theorem seX3_findRing : Cond.selects yX3_findRing.cls yX3_findRing yX3_findRing ∈ lw_tbl := List.mem_of_getElem? (i := 613) (by decide +kernel)
theorem seX3_findWidening : Cond.selects yX3_findWidening.cls yX3_findWidening yX3_findWidening ∈ lw_tbl := List.mem_of_getElem? (i := 625) (by decide +kernel)
theorem seX3_hasEvent : Cond.selects yX3_hasEvent.cls yX3_hasEvent yX3_hasEvent ∈ lw_tbl := List.mem_of_getElem? (i := 587) (by decide +kernel)
theorem seX3_measureTo : Cond.selects yX3_measureTo.cls yX3_measureTo yX3_measureTo ∈ lw_tbl := List.mem_of_getElem? (i := 617) (by decide +kernel)
theorem seX3_nearestAfter : Cond.selects yX3_nearestAfter.cls yX3_nearestAfter yX3_nearestAfter ∈ lw_tbl := List.mem_of_getElem? (i := 621) (by decide +kernel)
theorem seX3_raiseOnce : Cond.selects yX3_raiseOnce.cls yX3_raiseOnce yX3_raiseOnce ∈ lw_tbl := List.mem_of_getElem? (i := 608) (by decide +kernel)
theorem seX3_rank : Cond.selects yX3_rank.cls yX3_rank yX3_rank ∈ lw_tbl := List.mem_of_getElem? (i := 632) (by decide +kernel)
theorem seX3_settle : Cond.selects yX3_settle.cls yX3_settle yX3_settle ∈ lw_tbl := List.mem_of_getElem? (i := 600) (by decide +kernel)
theorem seX4_highWhen : Cond.selects yX4_highWhen.cls yX4_highWhen yX4_highWhen ∈ lw_tbl := List.mem_of_getElem? (i := 326) (by decide +kernel)
theorem seX4_lowWhen : Cond.selects yX4_lowWhen.cls yX4_lowWhen yX4_lowWhen ∈ lw_tbl := List.mem_of_getElem? (i := 314) (by decide +kernel)
theorem seX4_put : Cond.selects yX4_put.cls yX4_put yX4_put ∈ lw_tbl := List.mem_of_getElem? (i := 199) (by decide +kernel)
theorem seX6_addLetter : Cond.selects yX6_addLetter.cls yX6_addLetter yX6_addLetter ∈ lw_tbl := List.mem_of_getElem? (i := 1) (by decide +kernel)
theorem seX6_ahead : Cond.selects yX6_ahead.cls yX6_ahead yX6_ahead ∈ lw_tbl := List.mem_of_getElem? (i := 558) (by decide +kernel)
theorem seX6_ask : Cond.selects yX6_ask.cls yX6_ask yX6_ask ∈ lw_tbl := List.mem_of_getElem? (i := 354) (by decide +kernel)
theorem seX6_council : Cond.selects yX6_council.cls yX6_council yX6_council ∈ lw_tbl := List.mem_of_getElem? (i := 475) (by decide +kernel)
theorem seX6_count : Cond.selects yX6_count.cls yX6_count yX6_count ∈ lw_tbl := List.mem_of_getElem? (i := 648) (by decide +kernel)
theorem seX6_counter : Cond.selects yX6_counter.cls yX6_counter yX6_counter ∈ lw_tbl := List.mem_of_getElem? (i := 291) (by decide +kernel)
theorem seX6_deliver : Cond.selects yX6_deliver.cls yX6_deliver yX6_deliver ∈ lw_tbl := List.mem_of_getElem? (i := 396) (by decide +kernel)
theorem seX6_event : Cond.selects yX6_event.cls yX6_event yX6_event ∈ lw_tbl := List.mem_of_getElem? (i := 574) (by decide +kernel)
theorem seX6_findLetter : Cond.selects yX6_findLetter.cls yX6_findLetter yX6_findLetter ∈ lw_tbl := List.mem_of_getElem? (i := 3) (by decide +kernel)
theorem seX6_findMember : Cond.selects yX6_findMember.cls yX6_findMember yX6_findMember ∈ lw_tbl := List.mem_of_getElem? (i := 0) (by decide +kernel)
theorem seX6_findStamp : Cond.selects yX6_findStamp.cls yX6_findStamp yX6_findStamp ∈ lw_tbl := List.mem_of_getElem? (i := 6) (by decide +kernel)
theorem seX6_findUnderWay : Cond.selects yX6_findUnderWay.cls yX6_findUnderWay yX6_findUnderWay ∈ lw_tbl := List.mem_of_getElem? (i := 2) (by decide +kernel)
theorem seX6_gather : Cond.selects yX6_gather.cls yX6_gather yX6_gather ∈ lw_tbl := List.mem_of_getElem? (i := 4) (by decide +kernel)
theorem seX6_given : Cond.selects yX6_given.cls yX6_given yX6_given ∈ lw_tbl := List.mem_of_getElem? (i := 550) (by decide +kernel)
theorem seX6_go : Cond.selects yX6_go.cls yX6_go yX6_go ∈ lw_tbl := List.mem_of_getElem? (i := 160) (by decide +kernel)
theorem seX6_heard : Cond.selects yX6_heard.cls yX6_heard yX6_heard ∈ lw_tbl := List.mem_of_getElem? (i := 441) (by decide +kernel)
theorem seX6_howManyUnderWay : Cond.selects yX6_howManyUnderWay.cls yX6_howManyUnderWay yX6_howManyUnderWay ∈ lw_tbl := List.mem_of_getElem? (i := 8) (by decide +kernel)
theorem seX6_latestStamped : Cond.selects yX6_latestStamped.cls yX6_latestStamped yX6_latestStamped ∈ lw_tbl := List.mem_of_getElem? (i := 7) (by decide +kernel)
theorem seX6_lead : Cond.selects yX6_lead.cls yX6_lead yX6_lead ∈ lw_tbl := List.mem_of_getElem? (i := 514) (by decide +kernel)
theorem seX6_letter : Cond.selects yX6_letter.cls yX6_letter yX6_letter ∈ lw_tbl := List.mem_of_getElem? (i := 437) (by decide +kernel)
theorem seX6_lie : Cond.selects yX6_lie.cls yX6_lie yX6_lie ∈ lw_tbl := List.mem_of_getElem? (i := 281) (by decide +kernel)
theorem seX6_link : Cond.selects yX6_link.cls yX6_link yX6_link ∈ lw_tbl := List.mem_of_getElem? (i := 583) (by decide +kernel)
theorem seX6_lose : Cond.selects yX6_lose.cls yX6_lose yX6_lose ∈ lw_tbl := List.mem_of_getElem? (i := 429) (by decide +kernel)
theorem seX6_meet : Cond.selects yX6_meet.cls yX6_meet yX6_meet ∈ lw_tbl := List.mem_of_getElem? (i := 501) (by decide +kernel)
theorem seX6_member : Cond.selects yX6_member.cls yX6_member yX6_member ∈ lw_tbl := List.mem_of_getElem? (i := 167) (by decide +kernel)
theorem seX6_mend : Cond.selects yX6_mend.cls yX6_mend yX6_mend ∈ lw_tbl := List.mem_of_getElem? (i := 596) (by decide +kernel)
theorem seX6_noteMeeting : Cond.selects yX6_noteMeeting.cls yX6_noteMeeting yX6_noteMeeting ∈ lw_tbl := List.mem_of_getElem? (i := 5) (by decide +kernel)
theorem seX6_of : Cond.selects yX6_of.cls yX6_of yX6_of ∈ lw_tbl := List.mem_of_getElem? (i := 305) (by decide +kernel)
theorem seX6_order : Cond.selects yX6_order.cls yX6_order yX6_order ∈ lw_tbl := List.mem_of_getElem? (i := 636) (by decide +kernel)
theorem seX6_rate : Cond.selects yX6_rate.cls yX6_rate yX6_rate ∈ lw_tbl := List.mem_of_getElem? (i := 266) (by decide +kernel)
theorem seX6_rest : Cond.selects yX6_rest.cls yX6_rest yX6_rest ∈ lw_tbl := List.mem_of_getElem? (i := 287) (by decide +kernel)
theorem seX6_ring : Cond.selects yX6_ring.cls yX6_ring yX6_ring ∈ lw_tbl := List.mem_of_getElem? (i := 644) (by decide +kernel)
theorem seX6_stamp : Cond.selects yX6_stamp.cls yX6_stamp yX6_stamp ∈ lw_tbl := List.mem_of_getElem? (i := 524) (by decide +kernel)
theorem seX6_time : Cond.selects yX6_time.cls yX6_time yX6_time ∈ lw_tbl := List.mem_of_getElem? (i := 640) (by decide +kernel)
theorem seX6_twice : Cond.selects yX6_twice.cls yX6_twice yX6_twice ∈ lw_tbl := List.mem_of_getElem? (i := 433) (by decide +kernel)
theorem seX6_votes : Cond.selects yX6_votes.cls yX6_votes yX6_votes ∈ lw_tbl := List.mem_of_getElem? (i := 455) (by decide +kernel)
theorem seX6_wait : Cond.selects yX6_wait.cls yX6_wait yX6_wait ∈ lw_tbl := List.mem_of_getElem? (i := 563) (by decide +kernel)
theorem seX7_ahead : Cond.selects yX7_ahead.cls yX7_ahead yX7_ahead ∈ lw_tbl := List.mem_of_getElem? (i := 971) (by decide +kernel)
theorem seX7_ask : Cond.selects yX7_ask.cls yX7_ask yX7_ask ∈ lw_tbl := List.mem_of_getElem? (i := 894) (by decide +kernel)
theorem seX7_atLeast : Cond.selects yX7_atLeast.cls yX7_atLeast yX7_atLeast ∈ lw_tbl := List.mem_of_getElem? (i := 12) (by decide +kernel)
theorem seX7_atMost : Cond.selects yX7_atMost.cls yX7_atMost yX7_atMost ∈ lw_tbl := List.mem_of_getElem? (i := 14) (by decide +kernel)
theorem seX7_council : Cond.selects yX7_council.cls yX7_council yX7_council ∈ lw_tbl := List.mem_of_getElem? (i := 943) (by decide +kernel)
theorem seX7_count : Cond.selects yX7_count.cls yX7_count yX7_count ∈ lw_tbl := List.mem_of_getElem? (i := 1021) (by decide +kernel)
theorem seX7_counter : Cond.selects yX7_counter.cls yX7_counter yX7_counter ∈ lw_tbl := List.mem_of_getElem? (i := 856) (by decide +kernel)
theorem seX7_counterOf : Cond.selects yX7_counterOf.cls yX7_counterOf yX7_counterOf ∈ lw_tbl := List.mem_of_getElem? (i := 10) (by decide +kernel)
theorem seX7_deliver : Cond.selects yX7_deliver.cls yX7_deliver yX7_deliver ∈ lw_tbl := List.mem_of_getElem? (i := 898) (by decide +kernel)
theorem seX7_event : Cond.selects yX7_event.cls yX7_event yX7_event ∈ lw_tbl := List.mem_of_getElem? (i := 980) (by decide +kernel)
theorem seX7_findCouncil : Cond.selects yX7_findCouncil.cls yX7_findCouncil yX7_findCouncil ∈ lw_tbl := List.mem_of_getElem? (i := 21) (by decide +kernel)
theorem seX7_findLongest : Cond.selects yX7_findLongest.cls yX7_findLongest yX7_findLongest ∈ lw_tbl := List.mem_of_getElem? (i := 24) (by decide +kernel)
theorem seX7_findTimes : Cond.selects yX7_findTimes.cls yX7_findTimes yX7_findTimes ∈ lw_tbl := List.mem_of_getElem? (i := 25) (by decide +kernel)
theorem seX7_gather : Cond.selects yX7_gather.cls yX7_gather yX7_gather ∈ lw_tbl := List.mem_of_getElem? (i := 19) (by decide +kernel)
theorem seX7_given : Cond.selects yX7_given.cls yX7_given yX7_given ∈ lw_tbl := List.mem_of_getElem? (i := 963) (by decide +kernel)
theorem seX7_go : Cond.selects yX7_go.cls yX7_go yX7_go ∈ lw_tbl := List.mem_of_getElem? (i := 820) (by decide +kernel)
theorem seX7_heard : Cond.selects yX7_heard.cls yX7_heard yX7_heard ∈ lw_tbl := List.mem_of_getElem? (i := 919) (by decide +kernel)
theorem seX7_heardHighOf : Cond.selects yX7_heardHighOf.cls yX7_heardHighOf yX7_heardHighOf ∈ lw_tbl := List.mem_of_getElem? (i := 18) (by decide +kernel)
theorem seX7_heardLowOf : Cond.selects yX7_heardLowOf.cls yX7_heardLowOf yX7_heardLowOf ∈ lw_tbl := List.mem_of_getElem? (i := 17) (by decide +kernel)
theorem seX7_heardMany : Cond.selects yX7_heardMany.cls yX7_heardMany yX7_heardMany ∈ lw_tbl := List.mem_of_getElem? (i := 15) (by decide +kernel)
theorem seX7_highOf : Cond.selects yX7_highOf.cls yX7_highOf yX7_highOf ∈ lw_tbl := List.mem_of_getElem? (i := 13) (by decide +kernel)
theorem seX7_isEvent : Cond.selects yX7_isEvent.cls yX7_isEvent yX7_isEvent ∈ lw_tbl := List.mem_of_getElem? (i := 23) (by decide +kernel)
theorem seX7_isMember : Cond.selects yX7_isMember.cls yX7_isMember yX7_isMember ∈ lw_tbl := List.mem_of_getElem? (i := 9) (by decide +kernel)
theorem seX7_isStamp : Cond.selects yX7_isStamp.cls yX7_isStamp yX7_isStamp ∈ lw_tbl := List.mem_of_getElem? (i := 22) (by decide +kernel)
theorem seX7_isUnderWay : Cond.selects yX7_isUnderWay.cls yX7_isUnderWay yX7_isUnderWay ∈ lw_tbl := List.mem_of_getElem? (i := 16) (by decide +kernel)
theorem seX7_lead : Cond.selects yX7_lead.cls yX7_lead yX7_lead ∈ lw_tbl := List.mem_of_getElem? (i := 955) (by decide +kernel)
theorem seX7_letter : Cond.selects yX7_letter.cls yX7_letter yX7_letter ∈ lw_tbl := List.mem_of_getElem? (i := 915) (by decide +kernel)
theorem seX7_lie : Cond.selects yX7_lie.cls yX7_lie yX7_lie ∈ lw_tbl := List.mem_of_getElem? (i := 846) (by decide +kernel)
theorem seX7_link : Cond.selects yX7_link.cls yX7_link yX7_link ∈ lw_tbl := List.mem_of_getElem? (i := 984) (by decide +kernel)
theorem seX7_lose : Cond.selects yX7_lose.cls yX7_lose yX7_lose ∈ lw_tbl := List.mem_of_getElem? (i := 907) (by decide +kernel)
theorem seX7_lowOf : Cond.selects yX7_lowOf.cls yX7_lowOf yX7_lowOf ∈ lw_tbl := List.mem_of_getElem? (i := 11) (by decide +kernel)
theorem seX7_meet : Cond.selects yX7_meet.cls yX7_meet yX7_meet ∈ lw_tbl := List.mem_of_getElem? (i := 951) (by decide +kernel)
theorem seX7_member : Cond.selects yX7_member.cls yX7_member yX7_member ∈ lw_tbl := List.mem_of_getElem? (i := 830) (by decide +kernel)
theorem seX7_mend : Cond.selects yX7_mend.cls yX7_mend yX7_mend ∈ lw_tbl := List.mem_of_getElem? (i := 992) (by decide +kernel)
theorem seX7_of : Cond.selects yX7_of.cls yX7_of yX7_of ∈ lw_tbl := List.mem_of_getElem? (i := 867) (by decide +kernel)
theorem seX7_order : Cond.selects yX7_order.cls yX7_order yX7_order ∈ lw_tbl := List.mem_of_getElem? (i := 1000) (by decide +kernel)
theorem seX7_rate : Cond.selects yX7_rate.cls yX7_rate yX7_rate ∈ lw_tbl := List.mem_of_getElem? (i := 837) (by decide +kernel)
theorem seX7_rest : Cond.selects yX7_rest.cls yX7_rest yX7_rest ∈ lw_tbl := List.mem_of_getElem? (i := 852) (by decide +kernel)
theorem seX7_ring : Cond.selects yX7_ring.cls yX7_ring yX7_ring ∈ lw_tbl := List.mem_of_getElem? (i := 1013) (by decide +kernel)
theorem seX7_ringFrom : Cond.selects yX7_ringFrom.cls yX7_ringFrom yX7_ringFrom ∈ lw_tbl := List.mem_of_getElem? (i := 26) (by decide +kernel)
theorem seX7_stamp : Cond.selects yX7_stamp.cls yX7_stamp yX7_stamp ∈ lw_tbl := List.mem_of_getElem? (i := 959) (by decide +kernel)
theorem seX7_time : Cond.selects yX7_time.cls yX7_time yX7_time ∈ lw_tbl := List.mem_of_getElem? (i := 1009) (by decide +kernel)
theorem seX7_twice : Cond.selects yX7_twice.cls yX7_twice yX7_twice ∈ lw_tbl := List.mem_of_getElem? (i := 911) (by decide +kernel)
theorem seX7_votes : Cond.selects yX7_votes.cls yX7_votes yX7_votes ∈ lw_tbl := List.mem_of_getElem? (i := 931) (by decide +kernel)
theorem seX7_votesFor : Cond.selects yX7_votesFor.cls yX7_votesFor yX7_votesFor ∈ lw_tbl := List.mem_of_getElem? (i := 20) (by decide +kernel)
theorem seX7_wait : Cond.selects yX7_wait.cls yX7_wait yX7_wait ∈ lw_tbl := List.mem_of_getElem? (i := 976) (by decide +kernel)
theorem imObj : Cond.instanceMethod objectInit ∈ lw_tbl := by decide +kernel
theorem cdObj : Cond.code objectInit ⟨#[0xb1]⟩ 1 none ∈ lw_tbl := by decide +kernel
end
section
section VRows
variable {g : GG} {M : MD} {pc : Nat} {lv : List (Nat × Value)} {st : List Value} {h : HP} {cs ss : Nat} {Post : Option Value → HP → Prop}
theorem wv_iadd {x y : Int32} (v : Int32) (hv : x + y = v) (d : decode (mCode M) pc = .ok (.iadd, 1)) (k : WP g M (pc + 1) lv (.int v :: st) h cs ss Post) : WP g M pc lv (.int y :: .int x :: st) h cs ss Post := by
  subst hv; exact wp_iadd d k
theorem wv_isub {x y : Int32} (v : Int32) (hv : x - y = v) (d : decode (mCode M) pc = .ok (.isub, 1)) (k : WP g M (pc + 1) lv (.int v :: st) h cs ss Post) : WP g M pc lv (.int y :: .int x :: st) h cs ss Post := by
  subst hv; exact wp_isub d k
theorem wv_imul {x y : Int32} (v : Int32) (hv : x * y = v) (d : decode (mCode M) pc = .ok (.imul, 1)) (k : WP g M (pc + 1) lv (.int v :: st) h cs ss Post) : WP g M pc lv (.int y :: .int x :: st) h cs ss Post := by
  subst hv; exact wp_imul d k
theorem wv_i2l {x : Int32} (v : Int64) (hv : x.toInt64 = v) (d : decode (mCode M) pc = .ok (.i2l, 1)) (k : WP g M (pc + 1) lv (.long v :: st) h cs ss Post) : WP g M pc lv (.int x :: st) h cs ss Post := by
  subst hv; exact wp_i2l d k
theorem wv_getI {a i c k : Nat} (x : Int32) (d : decode (mCode M) pc = .ok (.getfield i, 3)) (fl : fLk (mOwn M) i c k) (ht : isI (FT c k) = true) (hk : kd a = c) (hl : liv h a = true) (hx : vI h a k = x) (kk : WP g M (pc + 3) lv (.int x :: st) h cs ss Post) : WP g M pc lv (.ref a :: st) h cs ss Post := by
  subst hx; exact wp_getI d fl ht hk hl kk
theorem wv_getL {a i c k : Nat} (x : Int64) (d : decode (mCode M) pc = .ok (.getfield i, 3)) (fl : fLk (mOwn M) i c k) (ht : FT c k = .long) (hk : kd a = c) (hl : liv h a = true) (hx : vL h a k = x) (kk : WP g M (pc + 3) lv (.long x :: st) h cs ss Post) : WP g M pc lv (.ref a :: st) h cs ss Post := by
  subst hx; exact wp_getL d fl ht hk hl kk
theorem ln_le (a : Nat) : ln a ≤ 1000 := by
  unfold ln ln0
  repeat' split
  all_goals omega
theorem ix_in {i : Int32} {j n : Nat} (hi : i = nI j) (hj : j < n) (hn : n ≤ 1000) : vp_in i n := by rw [hi]; exact vp_in_nI hj (by omega)
theorem ix_cl {i : Int32} {j n : Nat} (hi : i = nI j) (hj : j < n) (hn : n ≤ 1000) : i.toNatClampNeg = j := by rw [hi]; exact nI_clamp (by omega)
theorem wv_iald {a : Nat} {i : Int32} (j : Nat) (x : Int32) (d : decode (mCode M) pc = .ok (.iaload, 1)) (hk : kd a = 8) (hl : liv h a = true) (hi : i = nI j) (hj : j < ln a) (hx : vI h a j = x) (kk : WP g M (pc + 1) lv (.int x :: st) h cs ss Post) : WP g M pc lv (.int i :: .ref a :: st) h cs ss Post :=
  wp_iald d hk hl (ix_in hi hj (ln_le a)) (by rw [ix_cl hi hj (ln_le a), hx]; exact kk)
theorem wv_bald {a : Nat} {i : Int32} (j : Nat) (x : Int32) (d : decode (mCode M) pc = .ok (.baload, 1)) (hk : kd a = 10) (hl : liv h a = true) (hi : i = nI j) (hj : j < ln a) (hx : vI h a j = x) (kk : WP g M (pc + 1) lv (.int x :: st) h cs ss Post) : WP g M pc lv (.int i :: .ref a :: st) h cs ss Post :=
  wp_bald d hk hl (ix_in hi hj (ln_le a)) (by rw [ix_cl hi hj (ln_le a), hx]; exact kk)
theorem wv_lald {a : Nat} {i : Int32} (j : Nat) (x : Int64) (d : decode (mCode M) pc = .ok (.laload, 1)) (hk : kd a = 9) (hl : liv h a = true) (hi : i = nI j) (hj : j < ln a) (hx : vL h a j = x) (kk : WP g M (pc + 1) lv (.long x :: st) h cs ss Post) : WP g M pc lv (.int i :: .ref a :: st) h cs ss Post :=
  wp_lald d hk hl (ix_in hi hj (ln_le a)) (by rw [ix_cl hi hj (ln_le a), hx]; exact kk)
theorem wv_aald {a t : Nat} {i : Int32} (j b : Nat) (d : decode (mCode M) pc = .ok (.aaload, 1)) (hk : kd a = t) (h1 : 10 < t) (h2 : t < 15) (hl : liv h a = true) (hi : i = nI j) (hj : j < ln a) (hx : vP h a j = some b) (kk : WP g M (pc + 1) lv (.ref b :: st) h cs ss Post) : WP g M pc lv (.int i :: .ref a :: st) h cs ss Post :=
  wp_aald (.ref b) d hk h1 h2 hl (ix_in hi hj (ln_le a)) (by rw [ix_cl hi hj (ln_le a), hx]; rfl) kk
theorem wv_aaldN {a t : Nat} {i : Int32} (j : Nat) (d : decode (mCode M) pc = .ok (.aaload, 1)) (hk : kd a = t) (h1 : 10 < t) (h2 : t < 15) (hl : liv h a = true) (hi : i = nI j) (hj : j < ln a) (hx : vP h a j = none) (kk : WP g M (pc + 1) lv (.null :: st) h cs ss Post) : WP g M pc lv (.int i :: .ref a :: st) h cs ss Post :=
  wp_aald .null d hk h1 h2 hl (ix_in hi hj (ln_le a)) (by rw [ix_cl hi hj (ln_le a), hx]; rfl) kk
theorem wv_iast {a : Nat} {i x : Int32} (j : Nat) (d : decode (mCode M) pc = .ok (.iastore, 1)) (hk : kd a = 8) (hl : liv h a = true) (hi : i = nI j) (hj : j < ln a) (kk : WP g M (pc + 1) lv st (sI h a j x) cs ss Post) : WP g M pc lv (.int x :: .int i :: .ref a :: st) h cs ss Post :=
  wp_iast d hk hl (ix_in hi hj (ln_le a)) (by rw [ix_cl hi hj (ln_le a)]; exact kk)
theorem wv_last {a : Nat} {i : Int32} {x : Int64} (j : Nat) (d : decode (mCode M) pc = .ok (.lastore, 1)) (hk : kd a = 9) (hl : liv h a = true) (hi : i = nI j) (hj : j < ln a) (kk : WP g M (pc + 1) lv st (sL h a j x) cs ss Post) : WP g M pc lv (.long x :: .int i :: .ref a :: st) h cs ss Post :=
  wp_last d hk hl (ix_in hi hj (ln_le a)) (by rw [ix_cl hi hj (ln_le a)]; exact kk)
theorem wv_bast {a : Nat} {i x : Int32} (j : Nat) (d : decode (mCode M) pc = .ok (.bastore, 1)) (hk : kd a = 10) (hl : liv h a = true) (hi : i = nI j) (hj : j < ln a) (hn : narrow .boolean (.int x) = .int x) (kk : WP g M (pc + 1) lv st (sI h a j x) cs ss Post) : WP g M pc lv (.int x :: .int i :: .ref a :: st) h cs ss Post :=
  wp_bast d hk hl (ix_in hi hj (ln_le a)) hn (by rw [ix_cl hi hj (ln_le a)]; exact kk)
theorem wv_aast {a b t : Nat} {i : Int32} (j : Nat) (d : decode (mCode M) pc = .ok (.aastore, 1)) (hk : kd a = t) (h1 : 10 < t) (h2 : t < 15) (hl : liv h a = true) (hi : i = nI j) (hj : j < ln a) (hkb : kd b = eC t) (kk : WP g M (pc + 1) lv st (sP h a j (some b)) cs ss Post) : WP g M pc lv (.ref b :: .int i :: .ref a :: st) h cs ss Post :=
  wp_aast d hk h1 h2 hl (ix_in hi hj (ln_le a)) hkb (by rw [ix_cl hi hj (ln_le a)]; exact kk)
/-- lcmp and the branch behind it, together -/
theorem lg_lt (x y : Int64) : lg_cmp x y < 0 ↔ x < y := by
  unfold lg_cmp
  split
  · rename_i h; constructor
    · intro q; exact absurd q (by decide)
    · intro q; exact absurd (Int64.lt_trans h q) Int64.lt_irrefl
  · split
    · rename_i h1 h2; constructor
      · intro q; exact absurd q (by decide)
      · intro q; rw [h2] at q; exact absurd q Int64.lt_irrefl
    · rename_i h1 h2; constructor
      · intro _; exact Int64.lt_of_le_of_ne (Int64.not_lt.mp h1) h2
      · intro _; decide
theorem lg_gt (x y : Int64) : 0 < lg_cmp x y ↔ y < x := by
  unfold lg_cmp
  split
  · rename_i h; exact ⟨fun _ => h, fun _ => by decide⟩
  · split
    · rename_i h1 h2; exact ⟨fun q => absurd q (by decide), fun q => absurd q h1⟩
    · rename_i h1 h2; exact ⟨fun q => absurd q (by decide), fun q => absurd q h1⟩
theorem lg_eq (x y : Int64) : lg_cmp x y = 0 ↔ x = y := by
  unfold lg_cmp
  split
  · rename_i h; exact ⟨fun q => absurd q (by decide), fun q => by rw [q] at h; exact absurd h Int64.lt_irrefl⟩
  · split
    · rename_i h1 h2; exact ⟨fun _ => h2, fun _ => rfl⟩
    · rename_i h1 h2; exact ⟨fun q => absurd q (by decide), fun q => absurd q h2⟩
theorem lg_le (x y : Int64) : lg_cmp x y ≤ 0 ↔ x ≤ y := by
  rw [← Int32.not_lt, lg_gt, Int64.not_lt]
theorem lg_ge (x y : Int64) : 0 ≤ lg_cmp x y ↔ y ≤ x := by
  rw [← Int32.not_lt, lg_lt, Int64.not_lt]
theorem wl_lt {x y : Int64} {off : Int} {tgt : Nat} (d : decode (mCode M) pc = .ok (.lcmp, 1)) (d2 : decode (mCode M) (pc + 1) = .ok (.ifCond .lt off, 3)) (ht : ((pc + 1 : Nat) : Int) + off = (tgt : Int)) (kt : x < y → WP g M tgt lv st h cs ss Post) (kf : ¬ x < y → WP g M (pc + 4) lv st h cs ss Post) : WP g M pc lv (.long y :: .long x :: st) h cs ss Post :=
  wp_lcmp d (wp_if_lt d2 ht (fun z => kt ((lg_lt x y).mp z)) (fun z => kf (fun q => z ((lg_lt x y).mpr q))))
theorem wl_gt {x y : Int64} {off : Int} {tgt : Nat} (d : decode (mCode M) pc = .ok (.lcmp, 1)) (d2 : decode (mCode M) (pc + 1) = .ok (.ifCond .gt off, 3)) (ht : ((pc + 1 : Nat) : Int) + off = (tgt : Int)) (kt : y < x → WP g M tgt lv st h cs ss Post) (kf : ¬ y < x → WP g M (pc + 4) lv st h cs ss Post) : WP g M pc lv (.long y :: .long x :: st) h cs ss Post :=
  wp_lcmp d (wp_if_gt d2 ht (fun z => kt ((lg_gt x y).mp z)) (fun z => kf (fun q => z ((lg_gt x y).mpr q))))
theorem wl_le {x y : Int64} {off : Int} {tgt : Nat} (d : decode (mCode M) pc = .ok (.lcmp, 1)) (d2 : decode (mCode M) (pc + 1) = .ok (.ifCond .le off, 3)) (ht : ((pc + 1 : Nat) : Int) + off = (tgt : Int)) (kt : x ≤ y → WP g M tgt lv st h cs ss Post) (kf : ¬ x ≤ y → WP g M (pc + 4) lv st h cs ss Post) : WP g M pc lv (.long y :: .long x :: st) h cs ss Post :=
  wp_lcmp d (wp_if_le d2 ht (fun z => kt ((lg_le x y).mp z)) (fun z => kf (fun q => z ((lg_le x y).mpr q))))
theorem wl_ge {x y : Int64} {off : Int} {tgt : Nat} (d : decode (mCode M) pc = .ok (.lcmp, 1)) (d2 : decode (mCode M) (pc + 1) = .ok (.ifCond .ge off, 3)) (ht : ((pc + 1 : Nat) : Int) + off = (tgt : Int)) (kt : y ≤ x → WP g M tgt lv st h cs ss Post) (kf : ¬ y ≤ x → WP g M (pc + 4) lv st h cs ss Post) : WP g M pc lv (.long y :: .long x :: st) h cs ss Post :=
  wp_lcmp d (wp_if_ge d2 ht (fun z => kt ((lg_ge x y).mp z)) (fun z => kf (fun q => z ((lg_ge x y).mpr q))))
theorem wl_eq {x y : Int64} {off : Int} {tgt : Nat} (d : decode (mCode M) pc = .ok (.lcmp, 1)) (d2 : decode (mCode M) (pc + 1) = .ok (.ifCond .eq off, 3)) (ht : ((pc + 1 : Nat) : Int) + off = (tgt : Int)) (kt : x = y → WP g M tgt lv st h cs ss Post) (kf : ¬ x = y → WP g M (pc + 4) lv st h cs ss Post) : WP g M pc lv (.long y :: .long x :: st) h cs ss Post :=
  wp_lcmp d (wp_if_eq d2 ht (fun z => kt ((lg_eq x y).mp z)) (fun z => kf (fun q => z ((lg_eq x y).mpr q))))
theorem wl_ne {x y : Int64} {off : Int} {tgt : Nat} (d : decode (mCode M) pc = .ok (.lcmp, 1)) (d2 : decode (mCode M) (pc + 1) = .ok (.ifCond .ne off, 3)) (ht : ((pc + 1 : Nat) : Int) + off = (tgt : Int)) (kt : ¬ x = y → WP g M tgt lv st h cs ss Post) (kf : x = y → WP g M (pc + 4) lv st h cs ss Post) : WP g M pc lv (.long y :: .long x :: st) h cs ss Post :=
  wp_lcmp d (wp_if_ne d2 ht (fun z => kt (fun q => z ((lg_eq x y).mpr q))) (fun z => kf ((lg_eq x y).mp z)))
end VRows
theorem wp_pc {g : GG} {M : MD} {pc pc' : Nat} {lv : List (Nat × Value)} {st : List Value} {h : HP} {cs ss : Nat} {Post : Option Value → HP → Prop} (e : pc = pc') (k : WP g M pc' lv st h cs ss Post) : WP g M pc lv st h cs ss Post := by subst e; exact k
theorem wN_add {x y : Int32} {a b : Nat} (hx : x = nI a) (hy : y = nI b) : x + y = nI (a + b) := by rw [hx, hy]; exact nI_add a b
theorem wN_mul {x y : Int32} {a b : Nat} (hx : x = nI a) (hy : y = nI b) : x * y = nI (a * b) := by rw [hx, hy]; exact pk_mul a b
theorem nb_n {x : Int32} (h : x = 0 ∨ x = 1) : narrow .boolean (.int x) = .int x := by rcases h with rfl | rfl <;> rfl
theorem nb_f {x : Int32} (h : x = 0 ∨ x = 1) : fits .boolean (.int x) = true := by rcases h with rfl | rfl <;> rfl
end
section
/-! contracts: arithmetic -/
/-- the floor of a quotient, as java.lang.Math has it -/
def fdv (a b : Int64) : Int64 := if a ^^^ b < 0 ∧ ¬ a / b * b = a then a / b - 1 else a / b
def asB (p : Prop) [Decidable p] : Int64 := if p then 1 else 0
set_option maxRecDepth 100000 in
set_option maxHeartbeats 4000000 in
theorem ct_floorDiv {g : GG} {h : HP} {Post : Option Value → HP → Prop} (a b : Int64) (hb : ¬ b = 0) (hp : Post (some (.long (fdv a b))) h) : CT g mJ9_floorDiv_f86c9 [.long a, .long b] h Post := by
  show WP g mJ9_floorDiv_f86c9 0 [(0, .long a), (2, .long b)] [] h 0 0 Post
  refine wp_lload_n dJ9_floorDiv_f86c9_0 rfl 0 rfl ?_
  refine wp_lload_n dJ9_floorDiv_f86c9_1 rfl 1 rfl ?_
  refine wp_ldiv dJ9_floorDiv_f86c9_2 (by assumption) ?_
  refine wp_lstore (lv' := [(4, .long (a / b)), (0, .long a), (2, .long b)]) dJ9_floorDiv_f86c9_3 (by decide) rfl ?_
  refine wp_lload_n dJ9_floorDiv_f86c9_5 rfl 1 rfl ?_
  refine wp_lload_n dJ9_floorDiv_f86c9_6 rfl 2 rfl ?_
  refine wp_lxor dJ9_floorDiv_f86c9_7 ?_
  refine wp_lconst (v := 0) dJ9_floorDiv_f86c9_8 rfl ?_
  refine wl_ge (tgt := 27) dJ9_floorDiv_f86c9_9 dJ9_floorDiv_f86c9_10 (by decide) (fun c_1 => ?_) (fun c_1 => ?_)
  · refine wp_lload dJ9_floorDiv_f86c9_27 0 rfl ?_
    refine wp_lret dJ9_floorDiv_f86c9_29 rfl (by decide) (by decide) ?_
    rw [show fdv a b = a / b from if_neg (fun q => absurd q.1 (Int64.not_lt.mpr c_1))] at hp
    exact hp
  · refine wp_lload dJ9_floorDiv_f86c9_13 0 rfl ?_
    refine wp_lload_n dJ9_floorDiv_f86c9_15 rfl 2 rfl ?_
    refine wp_lmul dJ9_floorDiv_f86c9_16 ?_
    refine wp_lload_n dJ9_floorDiv_f86c9_17 rfl 1 rfl ?_
    refine wl_eq (tgt := 27) dJ9_floorDiv_f86c9_18 dJ9_floorDiv_f86c9_19 (by decide) (fun c_2 => ?_) (fun c_2 => ?_)
    · refine wp_lload dJ9_floorDiv_f86c9_27 0 rfl ?_
      refine wp_lret dJ9_floorDiv_f86c9_29 rfl (by decide) (by decide) ?_
      rw [show fdv a b = a / b from if_neg (fun q => q.2 c_2)] at hp
      exact hp
    · refine wp_lload dJ9_floorDiv_f86c9_22 0 rfl ?_
      refine wp_lconst (v := 1) dJ9_floorDiv_f86c9_24 rfl ?_
      refine wp_lsub dJ9_floorDiv_f86c9_25 ?_
      refine wp_lret dJ9_floorDiv_f86c9_26 rfl (by decide) (by decide) ?_
      rw [show fdv a b = a / b - 1 from if_pos ⟨Int64.not_le.mp c_1, c_2⟩] at hp
      exact hp
def mx64 (a b : Int64) : Int64 := if b ≤ a then a else b
def mn64 (a b : Int64) : Int64 := if a ≤ b then a else b
def ab64 (a : Int64) : Int64 := if 0 ≤ a then a else -a
set_option maxRecDepth 100000 in
set_option maxHeartbeats 4000000 in
theorem ct_max {g : GG} {h : HP} {Post : Option Value → HP → Prop} (a b : Int64) (hp : Post (some (.long (mx64 a b))) h) : CT g mJ9_max_f86c9 [.long a, .long b] h Post := by
  show WP g mJ9_max_f86c9 0 [(0, .long a), (2, .long b)] [] h 0 0 Post
  refine wp_lload_n dJ9_max_f86c9_0 rfl 0 rfl ?_
  refine wp_lload_n dJ9_max_f86c9_1 rfl 1 rfl ?_
  refine wl_lt (tgt := 10) dJ9_max_f86c9_2 dJ9_max_f86c9_3 (by decide) (fun c_1 => ?_) (fun c_1 => ?_)
  · refine wp_lload_n dJ9_max_f86c9_10 rfl 1 rfl ?_
    refine wp_lret dJ9_max_f86c9_11 rfl (by decide) (by decide) ?_
    rw [show mx64 a b = b from if_neg (Int64.not_le.mpr c_1)] at hp
    exact hp
  · refine wp_lload_n dJ9_max_f86c9_6 rfl 0 rfl ?_
    refine wp_goto (tgt := 11) dJ9_max_f86c9_7 (by decide) ?_
    refine wp_lret dJ9_max_f86c9_11 rfl (by decide) (by decide) ?_
    rw [show mx64 a b = a from if_pos (Int64.not_lt.mp c_1)] at hp
    exact hp
set_option maxRecDepth 100000 in
set_option maxHeartbeats 4000000 in
theorem ct_min {g : GG} {h : HP} {Post : Option Value → HP → Prop} (a b : Int64) (hp : Post (some (.long (mn64 a b))) h) : CT g mJ9_min_f86c9 [.long a, .long b] h Post := by
  show WP g mJ9_min_f86c9 0 [(0, .long a), (2, .long b)] [] h 0 0 Post
  refine wp_lload_n dJ9_min_f86c9_0 rfl 0 rfl ?_
  refine wp_lload_n dJ9_min_f86c9_1 rfl 1 rfl ?_
  refine wl_gt (tgt := 10) dJ9_min_f86c9_2 dJ9_min_f86c9_3 (by decide) (fun c_1 => ?_) (fun c_1 => ?_)
  · refine wp_lload_n dJ9_min_f86c9_10 rfl 1 rfl ?_
    refine wp_lret dJ9_min_f86c9_11 rfl (by decide) (by decide) ?_
    rw [show mn64 a b = b from if_neg (Int64.not_le.mpr c_1)] at hp
    exact hp
  · refine wp_lload_n dJ9_min_f86c9_6 rfl 0 rfl ?_
    refine wp_goto (tgt := 11) dJ9_min_f86c9_7 (by decide) ?_
    refine wp_lret dJ9_min_f86c9_11 rfl (by decide) (by decide) ?_
    rw [show mn64 a b = a from if_pos (Int64.not_lt.mp c_1)] at hp
    exact hp
set_option maxRecDepth 100000 in
set_option maxHeartbeats 4000000 in
theorem ct_abs {g : GG} {h : HP} {Post : Option Value → HP → Prop} (a : Int64) (hp : Post (some (.long (ab64 a))) h) : CT g mJ9_abs_067f4 [.long a] h Post := by
  show WP g mJ9_abs_067f4 0 [(0, .long a)] [] h 0 0 Post
  refine wp_lload_n dJ9_abs_067f4_0 rfl 0 rfl ?_
  refine wp_lconst (v := 0) dJ9_abs_067f4_1 rfl ?_
  refine wl_ge (tgt := 11) dJ9_abs_067f4_2 dJ9_abs_067f4_3 (by decide) (fun c_1 => ?_) (fun c_1 => ?_)
  · refine wp_lload_n dJ9_abs_067f4_11 rfl 0 rfl ?_
    refine wp_lret dJ9_abs_067f4_12 rfl (by decide) (by decide) ?_
    rw [show ab64 a = a from if_pos c_1] at hp
    exact hp
  · refine wp_lload_n dJ9_abs_067f4_6 rfl 0 rfl ?_
    refine wp_lneg dJ9_abs_067f4_7 ?_
    refine wp_goto (tgt := 12) dJ9_abs_067f4_8 (by decide) ?_
    refine wp_lret dJ9_abs_067f4_12 rfl (by decide) (by decide) ?_
    rw [show ab64 a = -a from if_neg c_1] at hp
    exact hp
set_option maxRecDepth 100000 in
set_option maxHeartbeats 4000000 in
theorem ct_asBit {g : GG} {h : HP} {Post : Option Value → HP → Prop} (x : Int32) (hp : Post (some (.long (if x = 0 then 0 else 1))) h) : CT g mX6_asBit [.int x] h Post := by
  show WP g mX6_asBit 0 [(0, .int x)] [] h 0 0 Post
  refine wp_iload_n dX6_asBit_0 rfl 0 rfl ?_
  refine wp_if_eq (tgt := 8) dX6_asBit_1 (by decide) (fun c_1 => ?_) (fun c_1 => ?_)
  · refine wp_lconst (v := 0) dX6_asBit_8 rfl ?_
    refine wp_lret dX6_asBit_9 rfl (by decide) (by decide) ?_
    rw [if_pos c_1] at hp
    exact hp
  · refine wp_lconst (v := 1) dX6_asBit_4 rfl ?_
    refine wp_goto (tgt := 9) dX6_asBit_5 (by decide) ?_
    refine wp_lret dX6_asBit_9 rfl (by decide) (by decide) ?_
    rw [if_neg c_1] at hp
    exact hp
def floO (a b : Int64) : Int64 := if b < 1 then 0 else fdv a b
def ceiO (a b : Int64) : Int64 := if b < 1 then 0 else -fdv (-a) b
theorem ne0_1 {b : Int64} (h : ¬ b < 1) : ¬ b = 0 := by intro q; rw [q] at h; exact h (by decide)
set_option maxRecDepth 100000 in
set_option maxHeartbeats 4000000 in
theorem ct_floorOf {g : GG} {h : HP} {Post : Option Value → HP → Prop} (a b : Int64) (hp : Post (some (.long (floO a b))) h) : CT g mX6_floorOf [.long a, .long b] h Post := by
  show WP g mX6_floorOf 0 [(0, .long a), (2, .long b)] [] h 0 0 Post
  refine wp_lload_n dX6_floorOf_0 rfl 1 rfl ?_
  refine wp_lconst (v := 1) dX6_floorOf_1 rfl ?_
  refine wl_ge (tgt := 10) dX6_floorOf_2 dX6_floorOf_3 (by decide) (fun c_1 => ?_) (fun c_1 => ?_)
  · refine wp_lload_n dX6_floorOf_10 rfl 0 rfl ?_
    refine wp_lload_n dX6_floorOf_11 rfl 1 rfl ?_
    refine wp_callS mJ9_floorDiv_f86c9 [.long a, .long b] [] dX6_floorOf_12 iJ9_floorDiv_f86c9 (fun _ => trivial) mlX6_332 stJ9_floorDiv_f86c9 ⟨by decide, by decide⟩ rfl rfl (Nat.le_of_ble_eq_true rfl) (Nat.le_of_ble_eq_true rfl) (by decide) (by decide) ?_
    refine ct_floorDiv a b (ne0_1 (Int64.not_lt.mpr c_1)) ?_
    show WP g mX6_floorOf 15 [(0, .long a), (2, .long b)] [.long (fdv a b)] _ 0 0 _
    refine wp_lret dX6_floorOf_15 rfl (by decide) (by decide) ?_
    rw [show floO a b = fdv a b from if_neg (Int64.not_lt.mpr c_1)] at hp
    exact hp
  · refine wp_lconst (v := 0) dX6_floorOf_6 rfl ?_
    refine wp_goto (tgt := 15) dX6_floorOf_7 (by decide) ?_
    refine wp_lret dX6_floorOf_15 rfl (by decide) (by decide) ?_
    rw [show floO a b = 0 from if_pos (Int64.not_le.mp c_1)] at hp
    exact hp
set_option maxRecDepth 100000 in
set_option maxHeartbeats 4000000 in
theorem ct_ceilOf {g : GG} {h : HP} {Post : Option Value → HP → Prop} (a b : Int64) (hp : Post (some (.long (ceiO a b))) h) : CT g mX6_ceilOf [.long a, .long b] h Post := by
  show WP g mX6_ceilOf 0 [(0, .long a), (2, .long b)] [] h 0 0 Post
  refine wp_lload_n dX6_ceilOf_0 rfl 1 rfl ?_
  refine wp_lconst (v := 1) dX6_ceilOf_1 rfl ?_
  refine wl_ge (tgt := 10) dX6_ceilOf_2 dX6_ceilOf_3 (by decide) (fun c_1 => ?_) (fun c_1 => ?_)
  · refine wp_lload_n dX6_ceilOf_10 rfl 0 rfl ?_
    refine wp_lneg dX6_ceilOf_11 ?_
    refine wp_lload_n dX6_ceilOf_12 rfl 1 rfl ?_
    refine wp_callS mJ9_floorDiv_f86c9 [.long (-a), .long b] [] dX6_ceilOf_13 iJ9_floorDiv_f86c9 (fun _ => trivial) mlX6_332 stJ9_floorDiv_f86c9 ⟨by decide, by decide⟩ rfl rfl (Nat.le_of_ble_eq_true rfl) (Nat.le_of_ble_eq_true rfl) (by decide) (by decide) ?_
    refine ct_floorDiv (-a) b (ne0_1 (Int64.not_lt.mpr c_1)) ?_
    show WP g mX6_ceilOf 16 [(0, .long a), (2, .long b)] [.long (fdv (-a) b)] _ 0 0 _
    refine wp_lneg dX6_ceilOf_16 ?_
    refine wp_lret dX6_ceilOf_17 rfl (by decide) (by decide) ?_
    rw [show ceiO a b = -fdv (-a) b from if_neg (Int64.not_lt.mpr c_1)] at hp
    exact hp
  · refine wp_lconst (v := 0) dX6_ceilOf_6 rfl ?_
    refine wp_goto (tgt := 17) dX6_ceilOf_7 (by decide) ?_
    refine wp_lret dX6_ceilOf_17 rfl (by decide) (by decide) ?_
    rw [show ceiO a b = 0 from if_pos (Int64.not_le.mp c_1)] at hp
    exact hp
def aLe (d : Int64) (p : Int32) : Int64 := floO ((d - 1) * 1000) (Int32.toInt64 (1000 + p)) + 1
def aMo (d : Int64) (p : Int32) : Int64 := ceiO ((d + 1) * 1000) (Int32.toInt64 (1000 - p)) - 1
def cFo (t : Int64) (p : Int32) : Int64 := t + ceiO ((t - 1) * Int32.toInt64 p) 1000
set_option maxRecDepth 100000 in
set_option maxHeartbeats 4000000 in
theorem ct_atLeast {g : GG} {h : HP} {Post : Option Value → HP → Prop} (d : Int64) (p : Int32) (hp : Post (some (.long (aLe d p))) h) : CT g mX6_atLeast [.long d, .int p] h Post := by
  show WP g mX6_atLeast 0 [(0, .long d), (2, .int p)] [] h 0 0 Post
  refine wp_lload_n dX6_atLeast_0 rfl 0 rfl ?_
  refine wp_lconst (v := 1) dX6_atLeast_1 rfl ?_
  refine wp_lsub dX6_atLeast_2 ?_
  refine wp_ldc2 dX6_atLeast_3 cnX6_83 ?_
  refine wp_lmul dX6_atLeast_6 ?_
  refine wp_sipush (v := 1000) dX6_atLeast_7 (by decide) ?_
  refine wp_iload_n dX6_atLeast_10 rfl 1 rfl ?_
  refine wp_iadd dX6_atLeast_11 ?_
  refine wp_i2l dX6_atLeast_12 ?_
  refine wp_callS mX6_floorOf [.long ((d - 1) * 1000), .long (Int32.toInt64 (1000 + p))] [] dX6_atLeast_13 iX6_floorOf (fun _ => trivial) mlX6_240 stX6_floorOf ⟨by decide, by decide⟩ rfl rfl (Nat.le_of_ble_eq_true rfl) (Nat.le_of_ble_eq_true rfl) (by decide) (by decide) ?_
  refine ct_floorOf ((d - 1) * 1000) (Int32.toInt64 (1000 + p))  ?_
  show WP g mX6_atLeast 16 [(0, .long d), (2, .int p)] [.long (floO ((d - 1) * 1000) (Int32.toInt64 (1000 + p)))] _ 0 0 _
  refine wp_lconst (v := 1) dX6_atLeast_16 rfl ?_
  refine wp_ladd dX6_atLeast_17 ?_
  refine wp_lret dX6_atLeast_18 rfl (by decide) (by decide) ?_
  exact hp
set_option maxRecDepth 100000 in
set_option maxHeartbeats 4000000 in
theorem ct_atMost {g : GG} {h : HP} {Post : Option Value → HP → Prop} (d : Int64) (p : Int32) (hp : Post (some (.long (aMo d p))) h) : CT g mX6_atMost [.long d, .int p] h Post := by
  show WP g mX6_atMost 0 [(0, .long d), (2, .int p)] [] h 0 0 Post
  refine wp_lload_n dX6_atMost_0 rfl 0 rfl ?_
  refine wp_lconst (v := 1) dX6_atMost_1 rfl ?_
  refine wp_ladd dX6_atMost_2 ?_
  refine wp_ldc2 dX6_atMost_3 cnX6_83 ?_
  refine wp_lmul dX6_atMost_6 ?_
  refine wp_sipush (v := 1000) dX6_atMost_7 (by decide) ?_
  refine wp_iload_n dX6_atMost_10 rfl 1 rfl ?_
  refine wp_isub dX6_atMost_11 ?_
  refine wp_i2l dX6_atMost_12 ?_
  refine wp_callS mX6_ceilOf [.long ((d + 1) * 1000), .long (Int32.toInt64 (1000 - p))] [] dX6_atMost_13 iX6_ceilOf (fun _ => trivial) mlX6_335 stX6_ceilOf ⟨by decide, by decide⟩ rfl rfl (Nat.le_of_ble_eq_true rfl) (Nat.le_of_ble_eq_true rfl) (by decide) (by decide) ?_
  refine ct_ceilOf ((d + 1) * 1000) (Int32.toInt64 (1000 - p))  ?_
  show WP g mX6_atMost 16 [(0, .long d), (2, .int p)] [.long (ceiO ((d + 1) * 1000) (Int32.toInt64 (1000 - p)))] _ 0 0 _
  refine wp_lconst (v := 1) dX6_atMost_16 rfl ?_
  refine wp_lsub dX6_atMost_17 ?_
  refine wp_lret dX6_atMost_18 rfl (by decide) (by decide) ?_
  exact hp
set_option maxRecDepth 100000 in
set_option maxHeartbeats 4000000 in
theorem ct_countFor {g : GG} {h : HP} {Post : Option Value → HP → Prop} (d : Int64) (p : Int32) (hp : Post (some (.long (cFo d p))) h) : CT g mX6_countFor [.long d, .int p] h Post := by
  show WP g mX6_countFor 0 [(0, .long d), (2, .int p)] [] h 0 0 Post
  refine wp_lload_n dX6_countFor_0 rfl 0 rfl ?_
  refine wp_lload_n dX6_countFor_1 rfl 0 rfl ?_
  refine wp_lconst (v := 1) dX6_countFor_2 rfl ?_
  refine wp_lsub dX6_countFor_3 ?_
  refine wp_iload_n dX6_countFor_4 rfl 1 rfl ?_
  refine wp_i2l dX6_countFor_5 ?_
  refine wp_lmul dX6_countFor_6 ?_
  refine wp_ldc2 dX6_countFor_7 cnX6_83 ?_
  refine wp_callS mX6_ceilOf [.long ((d - 1) * (Int32.toInt64 p)), .long 1000] [.long d] dX6_countFor_10 iX6_ceilOf (fun _ => trivial) mlX6_335 stX6_ceilOf ⟨by decide, by decide⟩ rfl rfl (Nat.le_of_ble_eq_true rfl) (Nat.le_of_ble_eq_true rfl) (by decide) (by decide) ?_
  refine ct_ceilOf ((d - 1) * (Int32.toInt64 p)) 1000  ?_
  show WP g mX6_countFor 13 [(0, .long d), (2, .int p)] [.long (ceiO ((d - 1) * (Int32.toInt64 p)) 1000), .long d] _ 0 0 _
  refine wp_ladd dX6_countFor_13 ?_
  refine wp_lret dX6_countFor_14 rfl (by decide) (by decide) ?_
  exact hp
def flo (a b : Int64) : Int64 := if ¬ a - a / b * b = 0 ∧ ¬ ((a < 0) = (b < 0)) then a / b - 1 else a / b
end
section
/-! contracts: Span, Member: what is read -/
def cCn (h : HP) (a : Nat) (now : Int64) : Int64 := floO ((now - vL h a 4) * Int32.toInt64 (vI h a 5)) (Int32.toInt64 (vI h a 6))
def sLo (h : HP) (o : Nat) (c : Int64) (p : Int32) : Int64 := vL h o 1 + aLe (c - vL h o 3) p
def sHi (h : HP) (o : Nat) (c : Int64) (p : Int32) : Int64 := vL h o 2 + aMo (c - vL h o 3) p
def cLo (h : HP) (a o : Nat) (now : Int64) : Int64 := if vI h a 1 = 3 then now - Int32.toInt64 (vI h a 3) else sLo h o (cCn h a now) (vI h a 2)
def cHi (h : HP) (a o : Nat) (now : Int64) : Int64 := if vI h a 1 = 3 then now + Int32.toInt64 (vI h a 3) else sHi h o (cCn h a now) (vI h a 2)
set_option maxRecDepth 100000 in
set_option maxHeartbeats 4000000 in
theorem ct_countedAt {g : GG} {h : HP} {Post : Option Value → HP → Prop} (a : Nat) (now : Int64) (hk : kd a = 2) (hl : liv h a = true) (hp : Post (some (.long (cCn h a now))) h) : CT g mX2_countedAt [.ref a, .long now] h Post := by
  show WP g mX2_countedAt 0 [(0, .ref a), (1, .long now)] [] h 0 0 Post
  refine wp_lload_n dX2_countedAt_0 rfl 1 rfl ?_
  refine wp_aload_n dX2_countedAt_1 rfl 0 rfl ?_
  refine wp_getL dX2_countedAt_2 flX2_24 rfl hk hl ?_
  refine wp_lsub dX2_countedAt_5 ?_
  refine wp_aload_n dX2_countedAt_6 rfl 0 rfl ?_
  refine wp_getI dX2_countedAt_7 flX2_28 rfl hk hl ?_
  refine wp_i2l dX2_countedAt_10 ?_
  refine wp_lmul dX2_countedAt_11 ?_
  refine wp_aload_n dX2_countedAt_12 rfl 0 rfl ?_
  refine wp_getI dX2_countedAt_13 flX2_31 rfl hk hl ?_
  refine wp_i2l dX2_countedAt_16 ?_
  refine wp_callSN mX6_floorOf [.long ((now - (vL h a 4)) * (Int32.toInt64 (vI h a 5))), .long (Int32.toInt64 (vI h a 6))] [] dX2_countedAt_17 iX6_floorOf (fun _ => trivial) nlX2_52 stX6_floorOf ⟨by decide, by decide⟩ rfl rfl (Nat.le_of_ble_eq_true rfl) (Nat.le_of_ble_eq_true rfl) (by decide) (by decide) ?_
  refine ct_floorOf ((now - (vL h a 4)) * (Int32.toInt64 (vI h a 5))) (Int32.toInt64 (vI h a 6))  ?_
  show WP g mX2_countedAt 20 [(0, .ref a), (1, .long now)] [.long (floO ((now - (vL h a 4)) * (Int32.toInt64 (vI h a 5))) (Int32.toInt64 (vI h a 6)))] _ 0 0 _
  refine wp_lret dX2_countedAt_20 rfl (by decide) (by decide) ?_
  exact hp
set_option maxRecDepth 100000 in
set_option maxHeartbeats 4000000 in
theorem ct_lowWhen {g : GG} {h : HP} {Post : Option Value → HP → Prop} (o : Nat) (c : Int64) (p : Int32) (hk : kd o = 4) (hl : liv h o = true) (hp : Post (some (.long (sLo h o c p))) h) : CT g mX4_lowWhen [.ref o, .long c, .int p] h Post := by
  show WP g mX4_lowWhen 0 [(0, .ref o), (1, .long c), (3, .int p)] [] h 0 0 Post
  refine wp_aload_n dX4_lowWhen_0 rfl 0 rfl ?_
  refine wp_getL dX4_lowWhen_1 flX4_13 rfl hk hl ?_
  refine wp_lload_n dX4_lowWhen_4 rfl 1 rfl ?_
  refine wp_aload_n dX4_lowWhen_5 rfl 0 rfl ?_
  refine wp_getL dX4_lowWhen_6 flX4_20 rfl hk hl ?_
  refine wp_lsub dX4_lowWhen_9 ?_
  refine wp_iload_n dX4_lowWhen_10 rfl 2 rfl ?_
  refine wp_callSN mX6_atLeast [.long (c - (vL h o 3)), .int p] [.long (vL h o 1)] dX4_lowWhen_11 iX6_atLeast (fun _ => trivial) nlX4_23 stX6_atLeast ⟨by decide, by decide⟩ rfl rfl (Nat.le_of_ble_eq_true rfl) (Nat.le_of_ble_eq_true rfl) (by decide) (by decide) ?_
  refine ct_atLeast (c - (vL h o 3)) p  ?_
  show WP g mX4_lowWhen 14 [(0, .ref o), (1, .long c), (3, .int p)] [.long (aLe (c - (vL h o 3)) p), .long (vL h o 1)] _ 0 0 _
  refine wp_ladd dX4_lowWhen_14 ?_
  refine wp_lret dX4_lowWhen_15 rfl (by decide) (by decide) ?_
  exact hp
set_option maxRecDepth 100000 in
set_option maxHeartbeats 4000000 in
theorem ct_highWhen {g : GG} {h : HP} {Post : Option Value → HP → Prop} (o : Nat) (c : Int64) (p : Int32) (hk : kd o = 4) (hl : liv h o = true) (hp : Post (some (.long (sHi h o c p))) h) : CT g mX4_highWhen [.ref o, .long c, .int p] h Post := by
  show WP g mX4_highWhen 0 [(0, .ref o), (1, .long c), (3, .int p)] [] h 0 0 Post
  refine wp_aload_n dX4_highWhen_0 rfl 0 rfl ?_
  refine wp_getL dX4_highWhen_1 flX4_17 rfl hk hl ?_
  refine wp_lload_n dX4_highWhen_4 rfl 1 rfl ?_
  refine wp_aload_n dX4_highWhen_5 rfl 0 rfl ?_
  refine wp_getL dX4_highWhen_6 flX4_20 rfl hk hl ?_
  refine wp_lsub dX4_highWhen_9 ?_
  refine wp_iload_n dX4_highWhen_10 rfl 2 rfl ?_
  refine wp_callSN mX6_atMost [.long (c - (vL h o 3)), .int p] [.long (vL h o 2)] dX4_highWhen_11 iX6_atMost (fun _ => trivial) nlX4_29 stX6_atMost ⟨by decide, by decide⟩ rfl rfl (Nat.le_of_ble_eq_true rfl) (Nat.le_of_ble_eq_true rfl) (by decide) (by decide) ?_
  refine ct_atMost (c - (vL h o 3)) p  ?_
  show WP g mX4_highWhen 14 [(0, .ref o), (1, .long c), (3, .int p)] [.long (aMo (c - (vL h o 3)) p), .long (vL h o 2)] _ 0 0 _
  refine wp_ladd dX4_highWhen_14 ?_
  refine wp_lret dX4_highWhen_15 rfl (by decide) (by decide) ?_
  exact hp
set_option maxRecDepth 100000 in
set_option maxHeartbeats 4000000 in
theorem ct_lowAt {g : GG} {h : HP} {Post : Option Value → HP → Prop} (a o : Nat) (now : Int64) (hk : kd a = 2) (hl : liv h a = true) (ho : vP h a 8 = some o) (hko : kd o = 4) (hlo : liv h o = true) (hp : Post (some (.long (cLo h a o now))) h) : CT g mX2_lowAt [.ref a, .long now] h Post := by
  show WP g mX2_lowAt 0 [(0, .ref a), (1, .long now)] [] h 0 0 Post
  refine wp_aload_n dX2_lowAt_0 rfl 0 rfl ?_
  refine wp_getI dX2_lowAt_1 flX2_15 rfl hk hl ?_
  refine wp_iconst (v := 3) dX2_lowAt_4 (by decide) ?_
  refine wp_icmp_ne (tgt := 18) dX2_lowAt_5 (by decide) (fun c_1 => ?_) (fun c_1 => ?_)
  · refine wp_aload_n dX2_lowAt_18 rfl 0 rfl ?_
    refine wp_getP (b := o) dX2_lowAt_19 flX2_37 rfl hk hl ho ?_
    refine wp_aload_n dX2_lowAt_22 rfl 0 rfl ?_
    refine wp_lload_n dX2_lowAt_23 rfl 1 rfl ?_
    refine wp_callV mX2_countedAt a [.long now] [.ref o] (c := 2) dX2_lowAt_24 iX2_countedAt (fun _ => trivial) mlX2_56 imX2_countedAt seX2_countedAt (by decide) rfl hk ⟨by decide, by decide⟩ rfl rfl (Nat.le_of_ble_eq_true rfl) (Nat.le_of_ble_eq_true rfl) (by decide) (by decide) ?_
    refine ct_countedAt a now hk hl ?_
    show WP g mX2_lowAt 27 [(0, .ref a), (1, .long now)] [.long (cCn h a now), .ref o] _ 0 0 _
    refine wp_aload_n dX2_lowAt_27 rfl 0 rfl ?_
    refine wp_getI dX2_lowAt_28 flX2_18 rfl hk hl ?_
    refine wp_callV mX4_lowWhen o [.long (cCn h a now), .int (vI h a 2)] [] (c := 4) dX2_lowAt_31 iX4_lowWhen (fun _ => trivial) mlX2_60 imX4_lowWhen seX4_lowWhen (by decide) rfl hko ⟨by decide, by decide⟩ rfl rfl (Nat.le_of_ble_eq_true rfl) (Nat.le_of_ble_eq_true rfl) (by decide) (by decide) ?_
    refine ct_lowWhen o (cCn h a now) (vI h a 2) hko hlo ?_
    show WP g mX2_lowAt 34 [(0, .ref a), (1, .long now)] [.long (sLo h o (cCn h a now) (vI h a 2))] _ 0 0 _
    refine wp_lret dX2_lowAt_34 rfl (by decide) (by decide) ?_
    rw [show cLo h a o now = _ from if_neg c_1] at hp
    exact hp
  · refine wp_lload_n dX2_lowAt_8 rfl 1 rfl ?_
    refine wp_aload_n dX2_lowAt_9 rfl 0 rfl ?_
    refine wp_getI dX2_lowAt_10 flX2_21 rfl hk hl ?_
    refine wp_i2l dX2_lowAt_13 ?_
    refine wp_lsub dX2_lowAt_14 ?_
    refine wp_goto (tgt := 34) dX2_lowAt_15 (by decide) ?_
    refine wp_lret dX2_lowAt_34 rfl (by decide) (by decide) ?_
    rw [show cLo h a o now = _ from if_pos c_1] at hp
    exact hp
set_option maxRecDepth 100000 in
set_option maxHeartbeats 4000000 in
theorem ct_highAt {g : GG} {h : HP} {Post : Option Value → HP → Prop} (a o : Nat) (now : Int64) (hk : kd a = 2) (hl : liv h a = true) (ho : vP h a 8 = some o) (hko : kd o = 4) (hlo : liv h o = true) (hp : Post (some (.long (cHi h a o now))) h) : CT g mX2_highAt [.ref a, .long now] h Post := by
  show WP g mX2_highAt 0 [(0, .ref a), (1, .long now)] [] h 0 0 Post
  refine wp_aload_n dX2_highAt_0 rfl 0 rfl ?_
  refine wp_getI dX2_highAt_1 flX2_15 rfl hk hl ?_
  refine wp_iconst (v := 3) dX2_highAt_4 (by decide) ?_
  refine wp_icmp_ne (tgt := 18) dX2_highAt_5 (by decide) (fun c_1 => ?_) (fun c_1 => ?_)
  · refine wp_aload_n dX2_highAt_18 rfl 0 rfl ?_
    refine wp_getP (b := o) dX2_highAt_19 flX2_37 rfl hk hl ho ?_
    refine wp_aload_n dX2_highAt_22 rfl 0 rfl ?_
    refine wp_lload_n dX2_highAt_23 rfl 1 rfl ?_
    refine wp_callV mX2_countedAt a [.long now] [.ref o] (c := 2) dX2_highAt_24 iX2_countedAt (fun _ => trivial) mlX2_56 imX2_countedAt seX2_countedAt (by decide) rfl hk ⟨by decide, by decide⟩ rfl rfl (Nat.le_of_ble_eq_true rfl) (Nat.le_of_ble_eq_true rfl) (by decide) (by decide) ?_
    refine ct_countedAt a now hk hl ?_
    show WP g mX2_highAt 27 [(0, .ref a), (1, .long now)] [.long (cCn h a now), .ref o] _ 0 0 _
    refine wp_aload_n dX2_highAt_27 rfl 0 rfl ?_
    refine wp_getI dX2_highAt_28 flX2_18 rfl hk hl ?_
    refine wp_callV mX4_highWhen o [.long (cCn h a now), .int (vI h a 2)] [] (c := 4) dX2_highAt_31 iX4_highWhen (fun _ => trivial) mlX2_64 imX4_highWhen seX4_highWhen (by decide) rfl hko ⟨by decide, by decide⟩ rfl rfl (Nat.le_of_ble_eq_true rfl) (Nat.le_of_ble_eq_true rfl) (by decide) (by decide) ?_
    refine ct_highWhen o (cCn h a now) (vI h a 2) hko hlo ?_
    show WP g mX2_highAt 34 [(0, .ref a), (1, .long now)] [.long (sHi h o (cCn h a now) (vI h a 2))] _ 0 0 _
    refine wp_lret dX2_highAt_34 rfl (by decide) (by decide) ?_
    rw [show cHi h a o now = _ from if_neg c_1] at hp
    exact hp
  · refine wp_lload_n dX2_highAt_8 rfl 1 rfl ?_
    refine wp_aload_n dX2_highAt_9 rfl 0 rfl ?_
    refine wp_getI dX2_highAt_10 flX2_21 rfl hk hl ?_
    refine wp_i2l dX2_highAt_13 ?_
    refine wp_ladd dX2_highAt_14 ?_
    refine wp_goto (tgt := 34) dX2_highAt_15 (by decide) ?_
    refine wp_lret dX2_highAt_34 rfl (by decide) (by decide) ?_
    rw [show cHi h a o now = _ from if_pos c_1] at hp
    exact hp
def cHo (h : HP) (a o : Nat) (now : Int64) : Prop := cLo h a o now ≤ now ∧ now ≤ cHi h a o now
set_option maxRecDepth 100000 in
set_option maxHeartbeats 4000000 in
theorem ct_holds {g : GG} {h : HP} {Post : Option Value → HP → Prop} (a o : Nat) (now : Int64) (hk : kd a = 2) (hl : liv h a = true) (ho : vP h a 8 = some o) (hko : kd o = 4) (hlo : liv h o = true) (hy : cHo h a o now → Post (some (.int 1)) h) (hn : ¬ cHo h a o now → Post (some (.int 0)) h) : CT g mX2_holds [.ref a, .long now] h Post := by
  show WP g mX2_holds 0 [(0, .ref a), (1, .long now)] [] h 0 0 Post
  refine wp_aload_n dX2_holds_0 rfl 0 rfl ?_
  refine wp_lload_n dX2_holds_1 rfl 1 rfl ?_
  refine wp_callV mX2_lowAt a [.long now] [] (c := 2) dX2_holds_2 iX2_lowAt (fun _ => trivial) mlX2_67 imX2_lowAt seX2_lowAt (by decide) rfl hk ⟨by decide, by decide⟩ rfl rfl (Nat.le_of_ble_eq_true rfl) (Nat.le_of_ble_eq_true rfl) (by decide) (by decide) ?_
  refine ct_lowAt a o now hk hl ho hko hlo ?_
  show WP g mX2_holds 5 [(0, .ref a), (1, .long now)] [.long (cLo h a o now)] _ 0 0 _
  refine wp_lload_n dX2_holds_5 rfl 1 rfl ?_
  refine wl_gt (tgt := 24) dX2_holds_6 dX2_holds_7 (by decide) (fun c_1 => ?_) (fun c_1 => ?_)
  · refine wp_iconst (v := 0) dX2_holds_24 (by decide) ?_
    refine wp_zret dX2_holds_25 rfl (by decide) (by decide) rfl ?_
    exact hn (fun q => absurd q.1 (Int64.not_le.mpr c_1))
  · refine wp_lload_n dX2_holds_10 rfl 1 rfl ?_
    refine wp_aload_n dX2_holds_11 rfl 0 rfl ?_
    refine wp_lload_n dX2_holds_12 rfl 1 rfl ?_
    refine wp_callV mX2_highAt a [.long now] [.long now] (c := 2) dX2_holds_13 iX2_highAt (fun _ => trivial) mlX2_70 imX2_highAt seX2_highAt (by decide) rfl hk ⟨by decide, by decide⟩ rfl rfl (Nat.le_of_ble_eq_true rfl) (Nat.le_of_ble_eq_true rfl) (by decide) (by decide) ?_
    refine ct_highAt a o now hk hl ho hko hlo ?_
    show WP g mX2_holds 16 [(0, .ref a), (1, .long now)] [.long (cHi h a o now), .long now] _ 0 0 _
    refine wl_gt (tgt := 24) dX2_holds_16 dX2_holds_17 (by decide) (fun c_2 => ?_) (fun c_2 => ?_)
    · refine wp_iconst (v := 0) dX2_holds_24 (by decide) ?_
      refine wp_zret dX2_holds_25 rfl (by decide) (by decide) rfl ?_
      exact hn (fun q => absurd q.2 (Int64.not_le.mpr c_2))
    · refine wp_iconst (v := 1) dX2_holds_20 (by decide) ?_
      refine wp_goto (tgt := 25) dX2_holds_21 (by decide) ?_
      refine wp_zret dX2_holds_25 rfl (by decide) (by decide) rfl ?_
      exact hy ⟨Int64.not_lt.mp c_1, Int64.not_lt.mp c_2⟩
/-- the span that a member has heard of another, if it has -/
def hsp (h : HP) (r j : Nat) : Option Nat := match vP h r j with
  | none => none
  | some b => if vI h b 0 = 0 then none else some b
set_option maxRecDepth 100000 in
set_option maxHeartbeats 4000000 in
theorem ct_spanOf {g : GG} {h : HP} {Post : Option Value → HP → Prop} (a r : Nat) (j : Nat) (hk : kd a = 2) (hl : liv h a = true) (hr : vP h a 9 = some r) (hkr : kd r = 14) (hlr : liv h r = true) (hn : ln r = 10) (hj : j < 10) (hb : ∀ b, vP h r j = some b → kd b = 4 ∧ liv h b = true) (hN : hsp h r j = none → Post (some .null) h) (hS : ∀ b, hsp h r j = some b → Post (some (.ref b)) h) : CT g mX2_spanOf [.ref a, .int (nI j)] h Post := by
  show WP g mX2_spanOf 0 [(0, .ref a), (1, .int (nI j))] [] h 0 0 Post
  refine wp_iload_n dX2_spanOf_0 rfl 1 rfl ?_
  refine wp_if_lt (tgt := 13) dX2_spanOf_1 (by decide) (fun c_1 => absurd c_1 (nI_pos (by omega))) (fun _ => ?_)
  refine wp_iload_n dX2_spanOf_4 rfl 1 rfl ?_
  refine wp_aload_n dX2_spanOf_5 rfl 0 rfl ?_
  refine wp_getP (b := r) dX2_spanOf_6 flX2_48 rfl hk hl hr ?_
  refine wp_alen (n := nI 10) dX2_spanOf_9 hkr (by decide) (by decide) hlr (by rw [hn]; rfl) ?_
  refine wp_icmp_lt (tgt := 15) dX2_spanOf_10 (by decide) (fun _ => ?_) (fun c_2 => absurd (nI_lt hj (by omega)) c_2)
  refine wp_aload_n dX2_spanOf_15 rfl 0 rfl ?_
  refine wp_getP (b := r) dX2_spanOf_16 flX2_48 rfl hk hl hr ?_
  refine wp_iload_n dX2_spanOf_19 rfl 1 rfl ?_
  cases hv : vP h r j with
  | none =>
    refine wv_aaldN j dX2_spanOf_20 hkr (by decide) (by decide) hlr rfl (by rw [hn]; exact hj) hv ?_
    refine wp_astore_nN (lv' := [(2, .null), (0, .ref a), (1, .int (nI j))]) dX2_spanOf_21 rfl (by decide) rfl ?_
    refine wp_aload_nN dX2_spanOf_22 rfl 0 rfl ?_
    refine wp_ifnullN (tgt := 33) dX2_spanOf_23 (by decide) ?_
    refine wp_null dX2_spanOf_33 ?_
    refine wp_pc (pc' := 34) rfl ?_
    refine wp_goto (tgt := 38) dX2_spanOf_34 (by decide) ?_
    refine wp_aretN dX2_spanOf_38 rfl (by decide) (by decide) ?_
    exact hN (by simp [hsp, hv])
  | some b =>
    refine wv_aald j b dX2_spanOf_20 hkr (by decide) (by decide) hlr rfl (by rw [hn]; exact hj) hv ?_
    refine wp_astore_n (lv' := [(2, .ref b), (0, .ref a), (1, .int (nI j))]) dX2_spanOf_21 rfl (by decide) rfl ?_
    refine wp_aload_n dX2_spanOf_22 rfl 0 rfl ?_
    refine wp_ifnull dX2_spanOf_23 ?_
    refine wp_aload_n dX2_spanOf_26 rfl 0 rfl ?_
    refine wp_pc (pc' := 27) rfl ?_
    refine wp_getI dX2_spanOf_27 flX2_73 rfl (hb b hv).1 (hb b hv).2 ?_
    refine wp_if_ne (tgt := 37) dX2_spanOf_30 (by decide) (fun c_3 => ?_) (fun c_3 => ?_)
    · refine wp_aload_n dX2_spanOf_37 rfl 0 rfl ?_
      refine wp_aret dX2_spanOf_38 rfl (by decide) (by decide) ?_
      exact hS b (by simp [hsp, hv, c_3])
    · refine wp_null dX2_spanOf_33 ?_
      refine wp_goto (tgt := 38) dX2_spanOf_34 (by decide) ?_
      refine wp_aretN dX2_spanOf_38 rfl (by decide) (by decide) ?_
      exact hN (by simp [hsp, hv, c_3])
theorem hsp_b {h : HP} {r j b : Nat} (hb : ∀ b, vP h r j = some b → kd b = 4 ∧ liv h b = true) (hv : hsp h r j = some b) : kd b = 4 ∧ liv h b = true := by
  unfold hsp at hv
  cases e : vP h r j with
  | none => rw [e] at hv; cases hv
  | some q =>
    rw [e] at hv
    by_cases hz : vI h q 0 = 0
    · simp [hz] at hv
    · simp [hz] at hv; subst hv; exact hb q e
set_option maxRecDepth 100000 in
set_option maxHeartbeats 4000000 in
theorem ct_hasHeardOf {g : GG} {h : HP} {Post : Option Value → HP → Prop} (a r : Nat) (j : Nat) (hk : kd a = 2) (hl : liv h a = true) (hr : vP h a 9 = some r) (hkr : kd r = 14) (hlr : liv h r = true) (hn : ln r = 10) (hj : j < 10) (hb : ∀ b, vP h r j = some b → kd b = 4 ∧ liv h b = true) (hN : hsp h r j = none → Post (some (.int 0)) h) (hS : ∀ b, hsp h r j = some b → Post (some (.int 1)) h) : CT g mX2_hasHeardOf [.ref a, .int (nI j)] h Post := by
  show WP g mX2_hasHeardOf 0 [(0, .ref a), (1, .int (nI j))] [] h 0 0 Post
  refine wp_aload_n dX2_hasHeardOf_0 rfl 0 rfl ?_
  refine wp_iload_n dX2_hasHeardOf_1 rfl 1 rfl ?_
  refine wp_callV mX2_spanOf a [.int (nI j)] [] (c := 2) dX2_hasHeardOf_2 iX2_spanOf (fun _ => trivial) mlX2_77 imX2_spanOf seX2_spanOf (by decide) rfl hk ⟨by decide, by decide⟩ rfl rfl (Nat.le_of_ble_eq_true rfl) (Nat.le_of_ble_eq_true rfl) (by decide) (by decide) ?_
  refine ct_spanOf a r j hk hl hr hkr hlr hn hj hb (fun hv => ?_) (fun b hv => ?_)
  · show WP g mX2_hasHeardOf 5 [(0, .ref a), (1, .int (nI j))] [.null] _ 0 0 _
    refine wp_ifnullN (tgt := 12) dX2_hasHeardOf_5 (by decide) ?_
    refine wp_iconst (v := 0) dX2_hasHeardOf_12 (by decide) ?_
    refine wp_zret dX2_hasHeardOf_13 rfl (by decide) (by decide) rfl ?_
    exact hN hv
  · show WP g mX2_hasHeardOf 5 [(0, .ref a), (1, .int (nI j))] [.ref b] _ 0 0 _
    refine wp_ifnull dX2_hasHeardOf_5 ?_
    refine wp_iconst (v := 1) dX2_hasHeardOf_8 (by decide) ?_
    refine wp_goto (tgt := 13) dX2_hasHeardOf_9 (by decide) ?_
    refine wp_zret dX2_hasHeardOf_13 rfl (by decide) (by decide) rfl ?_
    exact hS b hv
set_option maxRecDepth 100000 in
set_option maxHeartbeats 4000000 in
theorem ct_heardLowAt {g : GG} {h : HP} {Post : Option Value → HP → Prop} (now : Int64) (a r : Nat) (j : Nat) (hk : kd a = 2) (hl : liv h a = true) (hr : vP h a 9 = some r) (hkr : kd r = 14) (hlr : liv h r = true) (hn : ln r = 10) (hj : j < 10) (hb : ∀ b, vP h r j = some b → kd b = 4 ∧ liv h b = true) (hN : hsp h r j = none → Post (some (.long (-9000000000000000000))) h) (hS : ∀ b, hsp h r j = some b → Post (some (.long (sLo h b (cCn h a now) (vI h a 2)))) h) : CT g mX2_heardLowAt [.ref a, .int (nI j), .long now] h Post := by
  show WP g mX2_heardLowAt 0 [(0, .ref a), (1, .int (nI j)), (2, .long now)] [] h 0 0 Post
  refine wp_aload_n dX2_heardLowAt_0 rfl 0 rfl ?_
  refine wp_iload_n dX2_heardLowAt_1 rfl 1 rfl ?_
  refine wp_callV mX2_spanOf a [.int (nI j)] [] (c := 2) dX2_heardLowAt_2 iX2_spanOf (fun _ => trivial) mlX2_77 imX2_spanOf seX2_spanOf (by decide) rfl hk ⟨by decide, by decide⟩ rfl rfl (Nat.le_of_ble_eq_true rfl) (Nat.le_of_ble_eq_true rfl) (by decide) (by decide) ?_
  refine ct_spanOf a r j hk hl hr hkr hlr hn hj hb (fun hv => ?_) (fun b hv => ?_)
  · show WP g mX2_heardLowAt 5 [(0, .ref a), (1, .int (nI j)), (2, .long now)] [.null] _ 0 0 _
    refine wp_astoreN (lv' := [(4, .null), (0, .ref a), (1, .int (nI j)), (2, .long now)]) dX2_heardLowAt_5 (by decide) rfl ?_
    refine wp_aloadN dX2_heardLowAt_7 0 rfl ?_
    refine wp_ifnonnullN dX2_heardLowAt_9 ?_
    refine wp_ldc2 dX2_heardLowAt_12 cnX2_81 ?_
    refine wp_goto (tgt := 32) dX2_heardLowAt_15 (by decide) ?_
    refine wp_lret dX2_heardLowAt_32 rfl (by decide) (by decide) ?_
    exact hN hv
  · show WP g mX2_heardLowAt 5 [(0, .ref a), (1, .int (nI j)), (2, .long now)] [.ref b] _ 0 0 _
    refine wp_astore (lv' := [(4, .ref b), (0, .ref a), (1, .int (nI j)), (2, .long now)]) dX2_heardLowAt_5 (by decide) rfl ?_
    refine wp_aload dX2_heardLowAt_7 0 rfl ?_
    refine wp_ifnonnull (tgt := 18) dX2_heardLowAt_9 (by decide) ?_
    refine wp_aload dX2_heardLowAt_18 0 rfl ?_
    refine wp_aload_n dX2_heardLowAt_20 rfl 1 rfl ?_
    refine wp_lload_n dX2_heardLowAt_21 rfl 3 rfl ?_
    refine wp_callV mX2_countedAt a [.long now] [.ref b] (c := 2) dX2_heardLowAt_22 iX2_countedAt (fun _ => trivial) mlX2_56 imX2_countedAt seX2_countedAt (by decide) rfl hk ⟨by decide, by decide⟩ rfl rfl (Nat.le_of_ble_eq_true rfl) (Nat.le_of_ble_eq_true rfl) (by decide) (by decide) ?_
    refine ct_countedAt a now hk hl ?_
    show WP g mX2_heardLowAt 25 [(4, .ref b), (0, .ref a), (1, .int (nI j)), (2, .long now)] [.long (cCn h a now), .ref b] _ 0 0 _
    refine wp_aload_n dX2_heardLowAt_25 rfl 1 rfl ?_
    refine wp_getI dX2_heardLowAt_26 flX2_18 rfl hk hl ?_
    refine wp_callV mX4_lowWhen b [.long (cCn h a now), .int (vI h a 2)] [] (c := 4) dX2_heardLowAt_29 iX4_lowWhen (fun _ => trivial) mlX2_60 imX4_lowWhen seX4_lowWhen (by decide) rfl (hsp_b hb hv).1 ⟨by decide, by decide⟩ rfl rfl (Nat.le_of_ble_eq_true rfl) (Nat.le_of_ble_eq_true rfl) (by decide) (by decide) ?_
    refine ct_lowWhen b (cCn h a now) (vI h a 2) (hsp_b hb hv).1 (hsp_b hb hv).2 ?_
    show WP g mX2_heardLowAt 32 [(4, .ref b), (0, .ref a), (1, .int (nI j)), (2, .long now)] [.long (sLo h b (cCn h a now) (vI h a 2))] _ 0 0 _
    refine wp_lret dX2_heardLowAt_32 rfl (by decide) (by decide) ?_
    exact hS b hv
set_option maxRecDepth 100000 in
set_option maxHeartbeats 4000000 in
theorem ct_heardHighAt {g : GG} {h : HP} {Post : Option Value → HP → Prop} (now : Int64) (a r : Nat) (j : Nat) (hk : kd a = 2) (hl : liv h a = true) (hr : vP h a 9 = some r) (hkr : kd r = 14) (hlr : liv h r = true) (hn : ln r = 10) (hj : j < 10) (hb : ∀ b, vP h r j = some b → kd b = 4 ∧ liv h b = true) (hN : hsp h r j = none → Post (some (.long (-9000000000000000000))) h) (hS : ∀ b, hsp h r j = some b → Post (some (.long (sHi h b (cCn h a now) (vI h a 2)))) h) : CT g mX2_heardHighAt [.ref a, .int (nI j), .long now] h Post := by
  show WP g mX2_heardHighAt 0 [(0, .ref a), (1, .int (nI j)), (2, .long now)] [] h 0 0 Post
  refine wp_aload_n dX2_heardHighAt_0 rfl 0 rfl ?_
  refine wp_iload_n dX2_heardHighAt_1 rfl 1 rfl ?_
  refine wp_callV mX2_spanOf a [.int (nI j)] [] (c := 2) dX2_heardHighAt_2 iX2_spanOf (fun _ => trivial) mlX2_77 imX2_spanOf seX2_spanOf (by decide) rfl hk ⟨by decide, by decide⟩ rfl rfl (Nat.le_of_ble_eq_true rfl) (Nat.le_of_ble_eq_true rfl) (by decide) (by decide) ?_
  refine ct_spanOf a r j hk hl hr hkr hlr hn hj hb (fun hv => ?_) (fun b hv => ?_)
  · show WP g mX2_heardHighAt 5 [(0, .ref a), (1, .int (nI j)), (2, .long now)] [.null] _ 0 0 _
    refine wp_astoreN (lv' := [(4, .null), (0, .ref a), (1, .int (nI j)), (2, .long now)]) dX2_heardHighAt_5 (by decide) rfl ?_
    refine wp_aloadN dX2_heardHighAt_7 0 rfl ?_
    refine wp_ifnonnullN dX2_heardHighAt_9 ?_
    refine wp_ldc2 dX2_heardHighAt_12 cnX2_81 ?_
    refine wp_goto (tgt := 32) dX2_heardHighAt_15 (by decide) ?_
    refine wp_lret dX2_heardHighAt_32 rfl (by decide) (by decide) ?_
    exact hN hv
  · show WP g mX2_heardHighAt 5 [(0, .ref a), (1, .int (nI j)), (2, .long now)] [.ref b] _ 0 0 _
    refine wp_astore (lv' := [(4, .ref b), (0, .ref a), (1, .int (nI j)), (2, .long now)]) dX2_heardHighAt_5 (by decide) rfl ?_
    refine wp_aload dX2_heardHighAt_7 0 rfl ?_
    refine wp_ifnonnull (tgt := 18) dX2_heardHighAt_9 (by decide) ?_
    refine wp_aload dX2_heardHighAt_18 0 rfl ?_
    refine wp_aload_n dX2_heardHighAt_20 rfl 1 rfl ?_
    refine wp_lload_n dX2_heardHighAt_21 rfl 3 rfl ?_
    refine wp_callV mX2_countedAt a [.long now] [.ref b] (c := 2) dX2_heardHighAt_22 iX2_countedAt (fun _ => trivial) mlX2_56 imX2_countedAt seX2_countedAt (by decide) rfl hk ⟨by decide, by decide⟩ rfl rfl (Nat.le_of_ble_eq_true rfl) (Nat.le_of_ble_eq_true rfl) (by decide) (by decide) ?_
    refine ct_countedAt a now hk hl ?_
    show WP g mX2_heardHighAt 25 [(4, .ref b), (0, .ref a), (1, .int (nI j)), (2, .long now)] [.long (cCn h a now), .ref b] _ 0 0 _
    refine wp_aload_n dX2_heardHighAt_25 rfl 1 rfl ?_
    refine wp_getI dX2_heardHighAt_26 flX2_18 rfl hk hl ?_
    refine wp_callV mX4_highWhen b [.long (cCn h a now), .int (vI h a 2)] [] (c := 4) dX2_heardHighAt_29 iX4_highWhen (fun _ => trivial) mlX2_64 imX4_highWhen seX4_highWhen (by decide) rfl (hsp_b hb hv).1 ⟨by decide, by decide⟩ rfl rfl (Nat.le_of_ble_eq_true rfl) (Nat.le_of_ble_eq_true rfl) (by decide) (by decide) ?_
    refine ct_highWhen b (cCn h a now) (vI h a 2) (hsp_b hb hv).1 (hsp_b hb hv).2 ?_
    show WP g mX2_heardHighAt 32 [(4, .ref b), (0, .ref a), (1, .int (nI j)), (2, .long now)] [.long (sHi h b (cCn h a now) (vI h a 2))] _ 0 0 _
    refine wp_lret dX2_heardHighAt_32 rfl (by decide) (by decide) ?_
    exact hS b hv
end
section
/-! contracts: loops over what a member has heard; hear -/
def cntH (h : HP) (r : Nat) : Nat → Nat
  | 0 => 0
  | n + 1 => cntH h r n + (if (hsp h r n).isSome then 1 else 0)
theorem cntH_no {h : HP} {r n : Nat} (hv : hsp h r n = none) : cntH h r (n + 1) = cntH h r n := by simp [cntH, hv]
theorem cntH_yes {h : HP} {r n b : Nat} (hv : hsp h r n = some b) : cntH h r (n + 1) = cntH h r n + 1 := by simp [cntH, hv]
set_option maxRecDepth 100000 in
set_option maxHeartbeats 4000000 in
theorem lp_howManyHeard {g : GG} {h : HP} {Post : Option Value → HP → Prop} (a r : Nat) (hk : kd a = 2) (hl : liv h a = true) (hr : vP h a 9 = some r) (hkr : kd r = 14) (hlr : liv h r = true) (hn : ln r = 10) (hb : ∀ j b, j < 10 → vP h r j = some b → kd b = 4 ∧ liv h b = true) (hp : Post (some (.int (nI (cntH h r 10)))) h) : ∀ (k n : Nat), n + k = 10 → WP g mX2_howManyHeard 4 [(0, .ref a), (1, .int (nI (cntH h r n))), (2, .int (nI n))] [] h 0 0 Post := by
  intro k
  induction k with
  | zero =>
    intro n e0
    obtain rfl : n = 10 := by omega
    refine wp_iload_n dX2_howManyHeard_4 rfl 2 rfl ?_
    refine wp_aload_n dX2_howManyHeard_5 rfl 0 rfl ?_
    refine wp_getP (b := r) dX2_howManyHeard_6 flX2_48 rfl hk hl hr ?_
    refine wp_alen (n := nI 10) dX2_howManyHeard_9 hkr (by decide) (by decide) hlr (by rw [hn]; rfl) ?_
    refine wp_icmp_ge (tgt := 30) dX2_howManyHeard_10 (by decide) (fun _ => ?_) (fun c_1 => absurd (nI_le (by omega) (by omega)) c_1)
    refine wp_iload_n dX2_howManyHeard_30 rfl 1 rfl ?_
    refine wp_iret dX2_howManyHeard_31 rfl (by decide) (by decide) ?_
    exact hp
  | succ k ih =>
    intro n e0
    refine wp_iload_n dX2_howManyHeard_4 rfl 2 rfl ?_
    refine wp_aload_n dX2_howManyHeard_5 rfl 0 rfl ?_
    refine wp_getP (b := r) dX2_howManyHeard_6 flX2_48 rfl hk hl hr ?_
    refine wp_alen (n := nI 10) dX2_howManyHeard_9 hkr (by decide) (by decide) hlr (by rw [hn]; rfl) ?_
    refine wp_icmp_ge (tgt := 30) dX2_howManyHeard_10 (by decide) (fun c_1 => absurd c_1 (nI_ge (by omega) (by omega))) (fun _ => ?_)
    refine wp_aload_n dX2_howManyHeard_13 rfl 0 rfl ?_
    refine wp_iload_n dX2_howManyHeard_14 rfl 2 rfl ?_
    refine wp_callV mX2_hasHeardOf a [.int (nI n)] [] (c := 2) dX2_howManyHeard_15 iX2_hasHeardOf (fun _ => trivial) mlX2_83 imX2_hasHeardOf seX2_hasHeardOf (by decide) rfl hk ⟨by decide, by decide⟩ rfl rfl (Nat.le_of_ble_eq_true rfl) (Nat.le_of_ble_eq_true rfl) (by decide) (by decide) ?_
    refine ct_hasHeardOf a r n hk hl hr hkr hlr hn (by omega) (fun b q => hb n b (by omega) q) (fun hv => ?_) (fun b hv => ?_)
    · show WP g mX2_howManyHeard 18 [(0, .ref a), (1, .int (nI (cntH h r n))), (2, .int (nI n))] [.int 0] _ 0 0 _
      refine wp_if_eq (tgt := 24) dX2_howManyHeard_18 (by decide) (fun _ => ?_) (fun c_2 => absurd rfl c_2)
      refine wp_iinc (q := 2) (x := nI n) (v := nI (n + 1)) (lv' := [(2, .int (nI (n + 1))), (0, .ref a), (1, .int (nI (cntH h r n)))]) dX2_howManyHeard_24 rfl (nI_1 _) (by decide) rfl ?_
      refine wp_goto (tgt := 4) dX2_howManyHeard_27 (by decide) ?_
      refine wp_sub [1, 2, 0] rfl ?_
      have q := ih (n + 1) (by omega)
      rw [cntH_no hv] at q
      exact q
    · show WP g mX2_howManyHeard 18 [(0, .ref a), (1, .int (nI (cntH h r n))), (2, .int (nI n))] [.int 1] _ 0 0 _
      refine wp_if_eq (tgt := 24) dX2_howManyHeard_18 (by decide) (fun c_3 => absurd c_3 (by decide)) (fun _ => ?_)
      refine wp_iinc (q := 1) (x := nI (cntH h r n)) (v := nI (cntH h r n + 1)) (lv' := [(1, .int (nI (cntH h r n + 1))), (0, .ref a), (2, .int (nI n))]) dX2_howManyHeard_21 rfl (nI_1 _) (by decide) rfl ?_
      refine wp_iinc (q := 2) (x := nI n) (v := nI (n + 1)) (lv' := [(2, .int (nI (n + 1))), (1, .int (nI (cntH h r n + 1))), (0, .ref a)]) dX2_howManyHeard_24 rfl (nI_1 _) (by decide) rfl ?_
      refine wp_goto (tgt := 4) dX2_howManyHeard_27 (by decide) ?_
      refine wp_sub [2, 1, 0] rfl ?_
      have q := ih (n + 1) (by omega)
      rw [cntH_yes hv] at q
      exact q
set_option maxRecDepth 100000 in
set_option maxHeartbeats 4000000 in
theorem ct_howManyHeard {g : GG} {h : HP} {Post : Option Value → HP → Prop} (a r : Nat) (hk : kd a = 2) (hl : liv h a = true) (hr : vP h a 9 = some r) (hkr : kd r = 14) (hlr : liv h r = true) (hn : ln r = 10) (hb : ∀ j b, j < 10 → vP h r j = some b → kd b = 4 ∧ liv h b = true) (hp : Post (some (.int (nI (cntH h r 10)))) h) : CT g mX2_howManyHeard [.ref a] h Post := by
  show WP g mX2_howManyHeard 0 [(0, .ref a)] [] h 0 0 Post
  refine wp_iconst (v := 0) dX2_howManyHeard_0 (by decide) ?_
  refine wp_istore_n (lv' := [(1, .int 0), (0, .ref a)]) dX2_howManyHeard_1 rfl (by decide) rfl ?_
  refine wp_iconst (v := 0) dX2_howManyHeard_2 (by decide) ?_
  refine wp_istore_n (lv' := [(2, .int 0), (1, .int 0), (0, .ref a)]) dX2_howManyHeard_3 rfl (by decide) rfl ?_
  refine wp_sub [2, 1, 0] rfl ?_
  exact lp_howManyHeard a r hk hl hr hkr hlr hn hb hp 10 0 (by omega)
/-- what a member has heard, forgotten up to n -/
def fgt (h : HP) (r : Nat) : Nat → HP
  | 0 => h
  | n + 1 => match vP h r n with
    | none => fgt h r n
    | some b => sI (fgt h r n) b 0 0
theorem fgt_k (h : HP) (r : Nat) : ∀ n, liv (fgt h r n) = liv h ∧ vL (fgt h r n) = vL h ∧ vP (fgt h r n) = vP h
  | 0 => ⟨rfl, rfl, rfl⟩
  | n + 1 => by
    obtain ⟨h1, h2, h3⟩ := fgt_k h r n
    unfold fgt
    cases vP h r n with
    | none => exact ⟨h1, h2, h3⟩
    | some b => exact ⟨h1, h2, h3⟩
theorem fgt_no {h : HP} {r n : Nat} (hv : vP h r n = none) : fgt h r (n + 1) = fgt h r n := by
  show (match vP h r n with | none => fgt h r n | some b => sI (fgt h r n) b 0 0) = _
  rw [hv]
theorem fgt_yes {h : HP} {r n b : Nat} (hv : vP h r n = some b) : fgt h r (n + 1) = sI (fgt h r n) b 0 0 := by
  show (match vP h r n with | none => fgt h r n | some b => sI (fgt h r n) b 0 0) = _
  rw [hv]
set_option maxRecDepth 100000 in
set_option maxHeartbeats 4000000 in
theorem lp_forgetHeard {g : GG} {h : HP} {Post : Option Value → HP → Prop} (a r : Nat) (hk : kd a = 2) (hl : liv h a = true) (hr : vP h a 9 = some r) (hkr : kd r = 14) (hlr : liv h r = true) (hn : ln r = 10) (hb : ∀ j b, j < 10 → vP h r j = some b → kd b = 4 ∧ liv h b = true) (hp : Post none (fgt h r 10)) : ∀ (k n : Nat), n + k = 10 → WP g mX2_forgetHeard 2 [(0, .ref a), (1, .int (nI n))] [] (fgt h r n) 0 0 Post := by
  intro k
  induction k with
  | zero =>
    intro n e0
    obtain rfl : n = 10 := by omega
    refine wp_iload_n dX2_forgetHeard_2 rfl 1 rfl ?_
    refine wp_aload_n dX2_forgetHeard_3 rfl 0 rfl ?_
    refine wp_getP (b := r) dX2_forgetHeard_4 flX2_48 rfl hk (by rw [(fgt_k h r 10).1]; exact hl) (by rw [(fgt_k h r 10).2.2]; exact hr) ?_
    refine wp_alen (n := nI 10) dX2_forgetHeard_7 hkr (by decide) (by decide) (by rw [(fgt_k h r 10).1]; exact hlr) (by rw [hn]; rfl) ?_
    refine wp_icmp_ge (tgt := 36) dX2_forgetHeard_8 (by decide) (fun _ => ?_) (fun c_1 => absurd (nI_le (by omega) (by omega)) c_1)
    refine wp_vret dX2_forgetHeard_36 rfl (by decide) (by decide) ?_
    exact hp
  | succ k ih =>
    intro n e0
    refine wp_iload_n dX2_forgetHeard_2 rfl 1 rfl ?_
    refine wp_aload_n dX2_forgetHeard_3 rfl 0 rfl ?_
    refine wp_getP (b := r) dX2_forgetHeard_4 flX2_48 rfl hk (by rw [(fgt_k h r n).1]; exact hl) (by rw [(fgt_k h r n).2.2]; exact hr) ?_
    refine wp_alen (n := nI 10) dX2_forgetHeard_7 hkr (by decide) (by decide) (by rw [(fgt_k h r n).1]; exact hlr) (by rw [hn]; rfl) ?_
    refine wp_icmp_ge (tgt := 36) dX2_forgetHeard_8 (by decide) (fun c_1 => absurd c_1 (nI_ge (by omega) (by omega))) (fun _ => ?_)
    cases hv : vP h r n with
    | none =>
      refine wp_aload_n dX2_forgetHeard_11 rfl 0 rfl ?_
      refine wp_getP (b := r) dX2_forgetHeard_12 flX2_48 rfl hk (by rw [(fgt_k h r n).1]; exact hl) (by rw [(fgt_k h r n).2.2]; exact hr) ?_
      refine wp_iload_n dX2_forgetHeard_15 rfl 1 rfl ?_
      refine wv_aaldN n dX2_forgetHeard_16 hkr (by decide) (by decide) (by rw [(fgt_k h r n).1]; exact hlr) rfl (by rw [hn]; omega) (by rw [(fgt_k h r n).2.2]; exact hv) ?_
      refine wp_ifnullN (tgt := 30) dX2_forgetHeard_17 (by decide) ?_
      refine wp_iinc (q := 1) (x := nI n) (v := nI (n + 1)) (lv' := [(1, .int (nI (n + 1))), (0, .ref a)]) dX2_forgetHeard_30 rfl (nI_1 _) (by decide) rfl ?_
      refine wp_goto (tgt := 2) dX2_forgetHeard_33 (by decide) ?_
      refine wp_sub [1, 0] rfl ?_
      have q := ih (n + 1) (by omega)
      rw [fgt_no hv] at q
      exact q
    | some b =>
      refine wp_aload_n dX2_forgetHeard_11 rfl 0 rfl ?_
      refine wp_getP (b := r) dX2_forgetHeard_12 flX2_48 rfl hk (by rw [(fgt_k h r n).1]; exact hl) (by rw [(fgt_k h r n).2.2]; exact hr) ?_
      refine wp_iload_n dX2_forgetHeard_15 rfl 1 rfl ?_
      refine wv_aald n b dX2_forgetHeard_16 hkr (by decide) (by decide) (by rw [(fgt_k h r n).1]; exact hlr) rfl (by rw [hn]; omega) (by rw [(fgt_k h r n).2.2]; exact hv) ?_
      refine wp_ifnull dX2_forgetHeard_17 ?_
      refine wp_aload_n dX2_forgetHeard_20 rfl 0 rfl ?_
      refine wp_getP (b := r) dX2_forgetHeard_21 flX2_48 rfl hk (by rw [(fgt_k h r n).1]; exact hl) (by rw [(fgt_k h r n).2.2]; exact hr) ?_
      refine wp_iload_n dX2_forgetHeard_24 rfl 1 rfl ?_
      refine wv_aald n b dX2_forgetHeard_25 hkr (by decide) (by decide) (by rw [(fgt_k h r n).1]; exact hlr) rfl (by rw [hn]; omega) (by rw [(fgt_k h r n).2.2]; exact hv) ?_
      refine wp_iconst (v := 0) dX2_forgetHeard_26 (by decide) ?_
      refine wp_pc (pc' := 27) rfl ?_
      refine wp_putI dX2_forgetHeard_27 flX2_73 (Or.inl rfl) rfl rfl rfl (hb n b (by omega) hv).1 (by rw [(fgt_k h r n).1]; exact (hb n b (by omega) hv).2) ?_
      refine wp_iinc (q := 1) (x := nI n) (v := nI (n + 1)) (lv' := [(1, .int (nI (n + 1))), (0, .ref a)]) dX2_forgetHeard_30 rfl (nI_1 _) (by decide) rfl ?_
      refine wp_goto (tgt := 2) dX2_forgetHeard_33 (by decide) ?_
      refine wp_sub [1, 0] rfl ?_
      have q := ih (n + 1) (by omega)
      rw [fgt_yes hv] at q
      exact q
set_option maxRecDepth 100000 in
set_option maxHeartbeats 4000000 in
theorem ct_forgetHeard {g : GG} {h : HP} {Post : Option Value → HP → Prop} (a r : Nat) (hk : kd a = 2) (hl : liv h a = true) (hr : vP h a 9 = some r) (hkr : kd r = 14) (hlr : liv h r = true) (hn : ln r = 10) (hb : ∀ j b, j < 10 → vP h r j = some b → kd b = 4 ∧ liv h b = true) (hp : Post none (fgt h r 10)) : CT g mX2_forgetHeard [.ref a] h Post := by
  show WP g mX2_forgetHeard 0 [(0, .ref a)] [] h 0 0 Post
  refine wp_iconst (v := 0) dX2_forgetHeard_0 (by decide) ?_
  refine wp_istore_n (lv' := [(1, .int 0), (0, .ref a)]) dX2_forgetHeard_1 rfl (by decide) rfl ?_
  refine wp_sub [1, 0] rfl ?_
  exact lp_forgetHeard a r hk hl hr hkr hlr hn hb hp 10 0 (by omega)
def spP (h : HP) (o : Nat) (lo hi c : Int64) : HP := sL (sL (sL (sI h o 0 1) o 1 lo) o 2 hi) o 3 c
set_option maxRecDepth 100000 in
set_option maxHeartbeats 4000000 in
theorem ct_put {g : GG} {h : HP} {Post : Option Value → HP → Prop} (o : Nat) (lo hi c : Int64) (hk : kd o = 4) (hl : liv h o = true) (hp : Post none (spP h o lo hi c)) : CT g mX4_put [.ref o, .long lo, .long hi, .long c] h Post := by
  show WP g mX4_put 0 [(0, .ref o), (1, .long lo), (3, .long hi), (5, .long c)] [] h 0 0 Post
  refine wp_aload_n dX4_put_0 rfl 0 rfl ?_
  refine wp_iconst (v := 1) dX4_put_1 (by decide) ?_
  refine wp_putI dX4_put_2 flX4_7 (Or.inl rfl) rfl rfl rfl hk hl ?_
  refine wp_aload_n dX4_put_5 rfl 0 rfl ?_
  refine wp_lload_n dX4_put_6 rfl 1 rfl ?_
  refine wp_putL dX4_put_7 flX4_13 (Or.inl rfl) rfl hk hl ?_
  refine wp_aload_n dX4_put_10 rfl 0 rfl ?_
  refine wp_lload_n dX4_put_11 rfl 2 rfl ?_
  refine wp_putL dX4_put_12 flX4_17 (Or.inl rfl) rfl hk hl ?_
  refine wp_aload_n dX4_put_15 rfl 0 rfl ?_
  refine wp_lload dX4_put_16 3 rfl ?_
  refine wp_putL dX4_put_18 flX4_20 (Or.inl rfl) rfl hk hl ?_
  refine wp_vret dX4_put_21 rfl (by decide) (by decide) ?_
  exact hp
set_option maxRecDepth 100000 in
set_option maxHeartbeats 4000000 in
theorem ct_Span {g : GG} {h : HP} {Post : Option Value → HP → Prop} (o : Nat) (hp : Post none h) : CT g mX4_init [.ref o] h Post := by
  show WP g mX4_init 0 [(0, .ref o)] [] h 0 0 Post
  refine wp_aload_n dX4_init_0 rfl 0 rfl ?_
  refine wp_obj dX4_init_1 mlX4_1 imObj cdObj (by decide) (Nat.le_of_ble_eq_true rfl) ?_
  refine wp_vret dX4_init_4 rfl (by decide) (by decide) ?_
  exact hp
theorem livN {h : HP} {a b : Nat} (hl : liv h a = true) : liv (sN h b) a = true := by
  show (if a = b then true else h.1 a) = true
  split
  · rfl
  · exact hl
theorem liv_new (h : HP) (b : Nat) : liv (sN h b) b = true := by show (if b = b then true else h.1 b) = true; rw [if_pos rfl]
theorem liv_other {h : HP} {a b : Nat} (hne : a ≠ b) : liv (sN h b) a = liv h a := by show (if a = b then true else h.1 a) = h.1 a; rw [if_neg hne]
theorem vI_N {h : HP} {a b : Nat} (hne : a ≠ b) : vI (sN h b) a = vI h a := by show (if a = b then _ else h.2.1 a) = h.2.1 a; rw [if_neg hne]
theorem vL_N {h : HP} {a b : Nat} (hne : a ≠ b) : vL (sN h b) a = vL h a := by show (if a = b then _ else h.2.2.1 a) = h.2.2.1 a; rw [if_neg hne]
theorem vP_N {h : HP} {a b : Nat} (hne : a ≠ b) : vP (sN h b) a = vP h a := by show (if a = b then _ else h.2.2.2 a) = h.2.2.2 a; rw [if_neg hne]
theorem kd_ne {a b c d : Nat} (ha : kd a = c) (hb : kd b = d) (hcd : c ≠ d) : a ≠ b := fun e => hcd (by rw [← ha, e, hb])
/-- a span heard: the cell b0 is made for it where there is none -/
def heaH (h : HP) (r j b0 : Nat) (lo hi c : Int64) : HP := match vP h r j with
  | none => spP (sP (sN h b0) r j (some b0)) b0 lo hi c
  | some b => spP h b lo hi c
set_option maxRecDepth 100000 in
set_option maxHeartbeats 4000000 in
theorem ct_hear {g : GG} {h : HP} {Post : Option Value → HP → Prop} (a r j b0 : Nat) (lo hi c : Int64) (hk : kd a = 2) (hl : liv h a = true) (hr : vP h a 9 = some r) (hkr : kd r = 14) (hlr : liv h r = true) (hn : ln r = 10) (hj : j < 10) (hb : ∀ b, vP h r j = some b → kd b = 4 ∧ liv h b = true) (hb0 : vP h r j = none → kd b0 = 4 ∧ liv h b0 = false) (hp : Post none (heaH h r j b0 lo hi c)) : CT g mX2_hear [.ref a, .int (nI j), .long lo, .long hi, .long c] h Post := by
  show WP g mX2_hear 0 [(0, .ref a), (1, .int (nI j)), (2, .long lo), (4, .long hi), (6, .long c)] [] h 0 0 Post
  refine wp_iload_n dX2_hear_0 rfl 1 rfl ?_
  refine wp_if_lt (tgt := 13) dX2_hear_1 (by decide) (fun c_1 => absurd c_1 (nI_pos (by omega))) (fun _ => ?_)
  refine wp_iload_n dX2_hear_4 rfl 1 rfl ?_
  refine wp_aload_n dX2_hear_5 rfl 0 rfl ?_
  refine wp_getP (b := r) dX2_hear_6 flX2_48 rfl hk hl hr ?_
  refine wp_alen (n := nI 10) dX2_hear_9 hkr (by decide) (by decide) hlr (by rw [hn]; rfl) ?_
  refine wp_icmp_lt (tgt := 14) dX2_hear_10 (by decide) (fun _ => ?_) (fun c_2 => absurd (nI_lt hj (by omega)) c_2)
  cases hv : vP h r j with
  | none =>
    refine wp_aload_n dX2_hear_14 rfl 0 rfl ?_
    refine wp_getP (b := r) dX2_hear_15 flX2_48 rfl hk hl hr ?_
    refine wp_iload_n dX2_hear_18 rfl 1 rfl ?_
    refine wv_aaldN j dX2_hear_19 hkr (by decide) (by decide) hlr rfl (by rw [hn]; exact hj) hv ?_
    refine wp_ifnonnullN dX2_hear_20 ?_
    refine wp_aload_n dX2_hear_23 rfl 0 rfl ?_
    refine wp_getP (b := r) dX2_hear_24 flX2_48 rfl hk hl hr ?_
    refine wp_iload_n dX2_hear_27 rfl 1 rfl ?_
    refine wp_pc (pc' := 28) rfl ?_
    refine wp_new b0 (c := 4) dX2_hear_28 (by decide) clX2_34 nsX4 nzX4 (hb0 hv).1 (hb0 hv).2 (by decide) (by decide) ?_
    refine wp_dup dX2_hear_31 rfl ?_
    refine wp_callIN mX4_init b0 [] [.ref b0, .int (nI j), .ref r] dX2_hear_32 iX4_init (fun _ => trivial) rfl rfl nlX2_36 imX4_init ⟨by decide, by decide⟩ rfl rfl (Nat.le_of_ble_eq_true rfl) (Nat.le_of_ble_eq_true rfl) (by decide) (by decide) ?_
    refine ct_Span b0 ?_
    show WP g mX2_hear 35 [(0, .ref a), (1, .int (nI j)), (2, .long lo), (4, .long hi), (6, .long c)] [.ref b0, .int (nI j), .ref r] _ 1 4 _
    refine wv_aast j dX2_hear_35 hkr (by decide) (by decide) (livN hlr) rfl (by rw [hn]; exact hj) (hb0 hv).1 ?_
    refine wp_aload_n dX2_hear_36 rfl 0 rfl ?_
    refine wp_getP (b := r) dX2_hear_37 flX2_48 rfl hk (livN hl) (by show up2 _ r j (some b0) a 9 = _; rw [up2_ne (kd_ne hk hkr (by decide))]; show vP (sN h b0) a 9 = _; rw [vP_N (kd_ne hk (hb0 hv).1 (by decide))]; exact hr) ?_
    refine wp_iload_n dX2_hear_40 rfl 1 rfl ?_
    refine wv_aald j b0 dX2_hear_41 hkr (by decide) (by decide) (livN hlr) rfl (by rw [hn]; exact hj) (by show up2 _ r j (some b0) r j = _; exact up2_eq) ?_
    refine wp_lload_n dX2_hear_42 rfl 2 rfl ?_
    refine wp_lload dX2_hear_43 3 rfl ?_
    refine wp_lload dX2_hear_45 4 rfl ?_
    refine wp_callV mX4_put b0 [.long lo, .long hi, .long c] [] (c := 4) dX2_hear_47 iX4_put (fun _ => trivial) mlX2_41 imX4_put seX4_put (by decide) rfl (hb0 hv).1 ⟨by decide, by decide⟩ rfl rfl (Nat.le_of_ble_eq_true rfl) (Nat.le_of_ble_eq_true rfl) (by decide) (by decide) ?_
    refine ct_put b0 lo hi c (hb0 hv).1 (liv_new h b0) ?_
    show WP g mX2_hear 50 [(0, .ref a), (1, .int (nI j)), (2, .long lo), (4, .long hi), (6, .long c)] [] _ 1 4 _
    refine wp_vret dX2_hear_50 rfl (by decide) (by decide) ?_
    have q := hp
    unfold heaH at q
    rw [hv] at q
    exact q
  | some b =>
    refine wp_aload_n dX2_hear_14 rfl 0 rfl ?_
    refine wp_getP (b := r) dX2_hear_15 flX2_48 rfl hk hl hr ?_
    refine wp_iload_n dX2_hear_18 rfl 1 rfl ?_
    refine wv_aald j b dX2_hear_19 hkr (by decide) (by decide) hlr rfl (by rw [hn]; exact hj) hv ?_
    refine wp_ifnonnull (tgt := 36) dX2_hear_20 (by decide) ?_
    refine wp_aload_n dX2_hear_36 rfl 0 rfl ?_
    refine wp_getP (b := r) dX2_hear_37 flX2_48 rfl hk hl hr ?_
    refine wp_iload_n dX2_hear_40 rfl 1 rfl ?_
    refine wp_pc (pc' := 41) rfl ?_
    refine wv_aald j b dX2_hear_41 hkr (by decide) (by decide) hlr rfl (by rw [hn]; exact hj) hv ?_
    refine wp_lload_n dX2_hear_42 rfl 2 rfl ?_
    refine wp_lload dX2_hear_43 3 rfl ?_
    refine wp_lload dX2_hear_45 4 rfl ?_
    refine wp_callV mX4_put b [.long lo, .long hi, .long c] [] (c := 4) dX2_hear_47 iX4_put (fun _ => trivial) mlX2_41 imX4_put seX4_put (by decide) rfl (hb b hv).1 ⟨by decide, by decide⟩ rfl rfl (Nat.le_of_ble_eq_true rfl) (Nat.le_of_ble_eq_true rfl) (by decide) (by decide) ?_
    refine ct_put b lo hi c (hb b hv).1 (hb b hv).2 ?_
    show WP g mX2_hear 50 [(0, .ref a), (1, .int (nI j)), (2, .long lo), (4, .long hi), (6, .long c)] [] _ 0 0 _
    refine wp_vret dX2_hear_50 rfl (by decide) (by decide) ?_
    have q := hp
    unfold heaH at q
    rw [hv] at q
    exact q
end
section
/-! branches whose facts speak of whole numbers -/
theorem i32_lt (x y : Int32) : x < y ↔ x.toInt < y.toInt := Int32.lt_iff_toInt_lt
theorem i32_le (x y : Int32) : x ≤ y ↔ x.toInt ≤ y.toInt := Int32.le_iff_toInt_le
theorem i32_eq (x y : Int32) : x = y ↔ x.toInt = y.toInt := ⟨fun h => by rw [h], fun h => Int32.toInt.inj h⟩
theorem i64_lt (x y : Int64) : x < y ↔ x.toInt < y.toInt := Int64.lt_iff_toInt_lt
theorem i64_le (x y : Int64) : x ≤ y ↔ x.toInt ≤ y.toInt := Int64.le_iff_toInt_le
theorem i64_eq (x y : Int64) : x = y ↔ x.toInt = y.toInt := ⟨fun h => by rw [h], fun h => Int64.toInt.inj h⟩
theorem wid (x : Int32) : (Int32.toInt64 x).toInt = x.toInt := Int32.toInt_toInt64 x
section IntRows
variable {g : GG} {M : MD} {pc : Nat} {lv : List (Nat × Value)} {st : List Value} {h : HP} {cs ss : Nat} {Post : Option Value → HP → Prop}
theorem wi_icmp_eq {x y : Int32} {off : Int} {tgt : Nat} (X Y : Int) (hX : x.toInt = X) (hY : y.toInt = Y) (d : decode (mCode M) pc = .ok (.if_icmp .eq off, 3)) (ht : (pc : Int) + off = (tgt : Int)) (kt : X = Y → WP g M tgt lv st h cs ss Post) (kf : ¬ X = Y → WP g M (pc + 3) lv st h cs ss Post) : WP g M pc lv (.int y :: .int x :: st) h cs ss Post :=
  wp_icmp_eq d ht (fun z => kt (by have z' := (i32_eq x y).mp z; rw [hX, hY] at z'; exact z')) (fun z => kf (fun q => z ((i32_eq x y).mpr (by rw [hX, hY]; exact q))))
theorem wi_icmp_ne {x y : Int32} {off : Int} {tgt : Nat} (X Y : Int) (hX : x.toInt = X) (hY : y.toInt = Y) (d : decode (mCode M) pc = .ok (.if_icmp .ne off, 3)) (ht : (pc : Int) + off = (tgt : Int)) (kt : X ≠ Y → WP g M tgt lv st h cs ss Post) (kf : X = Y → WP g M (pc + 3) lv st h cs ss Post) : WP g M pc lv (.int y :: .int x :: st) h cs ss Post :=
  wp_icmp_ne d ht (fun z => kt (fun q => z ((i32_eq x y).mpr (by rw [hX, hY]; exact q)))) (fun z => kf (by have z' := (i32_eq x y).mp z; rw [hX, hY] at z'; exact z'))
theorem wi_icmp_lt {x y : Int32} {off : Int} {tgt : Nat} (X Y : Int) (hX : x.toInt = X) (hY : y.toInt = Y) (d : decode (mCode M) pc = .ok (.if_icmp .lt off, 3)) (ht : (pc : Int) + off = (tgt : Int)) (kt : X < Y → WP g M tgt lv st h cs ss Post) (kf : ¬ X < Y → WP g M (pc + 3) lv st h cs ss Post) : WP g M pc lv (.int y :: .int x :: st) h cs ss Post :=
  wp_icmp_lt d ht (fun z => kt (by have z' := (i32_lt x y).mp z; rw [hX, hY] at z'; exact z')) (fun z => kf (fun q => z ((i32_lt x y).mpr (by rw [hX, hY]; exact q))))
theorem wi_icmp_ge {x y : Int32} {off : Int} {tgt : Nat} (X Y : Int) (hX : x.toInt = X) (hY : y.toInt = Y) (d : decode (mCode M) pc = .ok (.if_icmp .ge off, 3)) (ht : (pc : Int) + off = (tgt : Int)) (kt : Y ≤ X → WP g M tgt lv st h cs ss Post) (kf : ¬ Y ≤ X → WP g M (pc + 3) lv st h cs ss Post) : WP g M pc lv (.int y :: .int x :: st) h cs ss Post :=
  wp_icmp_ge d ht (fun z => kt (by have z' := (i32_le y x).mp z; rw [hX, hY] at z'; exact z')) (fun z => kf (fun q => z ((i32_le y x).mpr (by rw [hX, hY]; exact q))))
theorem wi_icmp_gt {x y : Int32} {off : Int} {tgt : Nat} (X Y : Int) (hX : x.toInt = X) (hY : y.toInt = Y) (d : decode (mCode M) pc = .ok (.if_icmp .gt off, 3)) (ht : (pc : Int) + off = (tgt : Int)) (kt : Y < X → WP g M tgt lv st h cs ss Post) (kf : ¬ Y < X → WP g M (pc + 3) lv st h cs ss Post) : WP g M pc lv (.int y :: .int x :: st) h cs ss Post :=
  wp_icmp_gt d ht (fun z => kt (by have z' := (i32_lt y x).mp z; rw [hX, hY] at z'; exact z')) (fun z => kf (fun q => z ((i32_lt y x).mpr (by rw [hX, hY]; exact q))))
theorem wi_icmp_le {x y : Int32} {off : Int} {tgt : Nat} (X Y : Int) (hX : x.toInt = X) (hY : y.toInt = Y) (d : decode (mCode M) pc = .ok (.if_icmp .le off, 3)) (ht : (pc : Int) + off = (tgt : Int)) (kt : X ≤ Y → WP g M tgt lv st h cs ss Post) (kf : ¬ X ≤ Y → WP g M (pc + 3) lv st h cs ss Post) : WP g M pc lv (.int y :: .int x :: st) h cs ss Post :=
  wp_icmp_le d ht (fun z => kt (by have z' := (i32_le x y).mp z; rw [hX, hY] at z'; exact z')) (fun z => kf (fun q => z ((i32_le x y).mpr (by rw [hX, hY]; exact q))))
theorem wi_if_eq {x : Int32} {off : Int} {tgt : Nat} (X : Int) (hX : x.toInt = X) (d : decode (mCode M) pc = .ok (.ifCond .eq off, 3)) (ht : (pc : Int) + off = (tgt : Int)) (kt : X = 0 → WP g M tgt lv st h cs ss Post) (kf : ¬ X = 0 → WP g M (pc + 3) lv st h cs ss Post) : WP g M pc lv (.int x :: st) h cs ss Post :=
  wp_if_eq d ht (fun z => kt (by have z' := (i32_eq x 0).mp z; rw [hX] at z'; exact z')) (fun z => kf (fun q => z ((i32_eq x 0).mpr (by rw [hX]; exact q))))
theorem wi_if_ne {x : Int32} {off : Int} {tgt : Nat} (X : Int) (hX : x.toInt = X) (d : decode (mCode M) pc = .ok (.ifCond .ne off, 3)) (ht : (pc : Int) + off = (tgt : Int)) (kt : X ≠ 0 → WP g M tgt lv st h cs ss Post) (kf : X = 0 → WP g M (pc + 3) lv st h cs ss Post) : WP g M pc lv (.int x :: st) h cs ss Post :=
  wp_if_ne d ht (fun z => kt (fun q => z ((i32_eq x 0).mpr (by rw [hX]; exact q)))) (fun z => kf (by have z' := (i32_eq x 0).mp z; rw [hX] at z'; exact z'))
theorem wi_if_lt {x : Int32} {off : Int} {tgt : Nat} (X : Int) (hX : x.toInt = X) (d : decode (mCode M) pc = .ok (.ifCond .lt off, 3)) (ht : (pc : Int) + off = (tgt : Int)) (kt : X < 0 → WP g M tgt lv st h cs ss Post) (kf : ¬ X < 0 → WP g M (pc + 3) lv st h cs ss Post) : WP g M pc lv (.int x :: st) h cs ss Post :=
  wp_if_lt d ht (fun z => kt (by have z' := (i32_lt x 0).mp z; rw [hX] at z'; exact z')) (fun z => kf (fun q => z ((i32_lt x 0).mpr (by rw [hX]; exact q))))
theorem wi_if_ge {x : Int32} {off : Int} {tgt : Nat} (X : Int) (hX : x.toInt = X) (d : decode (mCode M) pc = .ok (.ifCond .ge off, 3)) (ht : (pc : Int) + off = (tgt : Int)) (kt : 0 ≤ X → WP g M tgt lv st h cs ss Post) (kf : ¬ 0 ≤ X → WP g M (pc + 3) lv st h cs ss Post) : WP g M pc lv (.int x :: st) h cs ss Post :=
  wp_if_ge d ht (fun z => kt (by have z' := (i32_le 0 x).mp z; rw [hX] at z'; exact z')) (fun z => kf (fun q => z ((i32_le 0 x).mpr (by rw [hX]; exact q))))
theorem wi_if_gt {x : Int32} {off : Int} {tgt : Nat} (X : Int) (hX : x.toInt = X) (d : decode (mCode M) pc = .ok (.ifCond .gt off, 3)) (ht : (pc : Int) + off = (tgt : Int)) (kt : 0 < X → WP g M tgt lv st h cs ss Post) (kf : ¬ 0 < X → WP g M (pc + 3) lv st h cs ss Post) : WP g M pc lv (.int x :: st) h cs ss Post :=
  wp_if_gt d ht (fun z => kt (by have z' := (i32_lt 0 x).mp z; rw [hX] at z'; exact z')) (fun z => kf (fun q => z ((i32_lt 0 x).mpr (by rw [hX]; exact q))))
theorem wi_if_le {x : Int32} {off : Int} {tgt : Nat} (X : Int) (hX : x.toInt = X) (d : decode (mCode M) pc = .ok (.ifCond .le off, 3)) (ht : (pc : Int) + off = (tgt : Int)) (kt : X ≤ 0 → WP g M tgt lv st h cs ss Post) (kf : ¬ X ≤ 0 → WP g M (pc + 3) lv st h cs ss Post) : WP g M pc lv (.int x :: st) h cs ss Post :=
  wp_if_le d ht (fun z => kt (by have z' := (i32_le x 0).mp z; rw [hX] at z'; exact z')) (fun z => kf (fun q => z ((i32_le x 0).mpr (by rw [hX]; exact q))))
theorem wil_eq {x y : Int64} {off : Int} {tgt : Nat} (X Y : Int) (hX : x.toInt = X) (hY : y.toInt = Y) (d : decode (mCode M) pc = .ok (.lcmp, 1)) (d2 : decode (mCode M) (pc + 1) = .ok (.ifCond .eq off, 3)) (ht : ((pc + 1 : Nat) : Int) + off = (tgt : Int)) (kt : X = Y → WP g M tgt lv st h cs ss Post) (kf : ¬ X = Y → WP g M (pc + 4) lv st h cs ss Post) : WP g M pc lv (.long y :: .long x :: st) h cs ss Post :=
  wl_eq d d2 ht (fun z => kt (by have z' := (i64_eq x y).mp z; rw [hX, hY] at z'; exact z')) (fun z => kf (fun q => z ((i64_eq x y).mpr (by rw [hX, hY]; exact q))))
theorem wil_ne {x y : Int64} {off : Int} {tgt : Nat} (X Y : Int) (hX : x.toInt = X) (hY : y.toInt = Y) (d : decode (mCode M) pc = .ok (.lcmp, 1)) (d2 : decode (mCode M) (pc + 1) = .ok (.ifCond .ne off, 3)) (ht : ((pc + 1 : Nat) : Int) + off = (tgt : Int)) (kt : X ≠ Y → WP g M tgt lv st h cs ss Post) (kf : X = Y → WP g M (pc + 4) lv st h cs ss Post) : WP g M pc lv (.long y :: .long x :: st) h cs ss Post :=
  wl_ne d d2 ht (fun z => kt (fun q => z ((i64_eq x y).mpr (by rw [hX, hY]; exact q)))) (fun z => kf (by have z' := (i64_eq x y).mp z; rw [hX, hY] at z'; exact z'))
theorem wil_lt {x y : Int64} {off : Int} {tgt : Nat} (X Y : Int) (hX : x.toInt = X) (hY : y.toInt = Y) (d : decode (mCode M) pc = .ok (.lcmp, 1)) (d2 : decode (mCode M) (pc + 1) = .ok (.ifCond .lt off, 3)) (ht : ((pc + 1 : Nat) : Int) + off = (tgt : Int)) (kt : X < Y → WP g M tgt lv st h cs ss Post) (kf : ¬ X < Y → WP g M (pc + 4) lv st h cs ss Post) : WP g M pc lv (.long y :: .long x :: st) h cs ss Post :=
  wl_lt d d2 ht (fun z => kt (by have z' := (i64_lt x y).mp z; rw [hX, hY] at z'; exact z')) (fun z => kf (fun q => z ((i64_lt x y).mpr (by rw [hX, hY]; exact q))))
theorem wil_ge {x y : Int64} {off : Int} {tgt : Nat} (X Y : Int) (hX : x.toInt = X) (hY : y.toInt = Y) (d : decode (mCode M) pc = .ok (.lcmp, 1)) (d2 : decode (mCode M) (pc + 1) = .ok (.ifCond .ge off, 3)) (ht : ((pc + 1 : Nat) : Int) + off = (tgt : Int)) (kt : Y ≤ X → WP g M tgt lv st h cs ss Post) (kf : ¬ Y ≤ X → WP g M (pc + 4) lv st h cs ss Post) : WP g M pc lv (.long y :: .long x :: st) h cs ss Post :=
  wl_ge d d2 ht (fun z => kt (by have z' := (i64_le y x).mp z; rw [hX, hY] at z'; exact z')) (fun z => kf (fun q => z ((i64_le y x).mpr (by rw [hX, hY]; exact q))))
theorem wil_gt {x y : Int64} {off : Int} {tgt : Nat} (X Y : Int) (hX : x.toInt = X) (hY : y.toInt = Y) (d : decode (mCode M) pc = .ok (.lcmp, 1)) (d2 : decode (mCode M) (pc + 1) = .ok (.ifCond .gt off, 3)) (ht : ((pc + 1 : Nat) : Int) + off = (tgt : Int)) (kt : Y < X → WP g M tgt lv st h cs ss Post) (kf : ¬ Y < X → WP g M (pc + 4) lv st h cs ss Post) : WP g M pc lv (.long y :: .long x :: st) h cs ss Post :=
  wl_gt d d2 ht (fun z => kt (by have z' := (i64_lt y x).mp z; rw [hX, hY] at z'; exact z')) (fun z => kf (fun q => z ((i64_lt y x).mpr (by rw [hX, hY]; exact q))))
theorem wil_le {x y : Int64} {off : Int} {tgt : Nat} (X Y : Int) (hX : x.toInt = X) (hY : y.toInt = Y) (d : decode (mCode M) pc = .ok (.lcmp, 1)) (d2 : decode (mCode M) (pc + 1) = .ok (.ifCond .le off, 3)) (ht : ((pc + 1 : Nat) : Int) + off = (tgt : Int)) (kt : X ≤ Y → WP g M tgt lv st h cs ss Post) (kf : ¬ X ≤ Y → WP g M (pc + 4) lv st h cs ss Post) : WP g M pc lv (.long y :: .long x :: st) h cs ss Post :=
  wl_le d d2 ht (fun z => kt (by have z' := (i64_le x y).mp z; rw [hX, hY] at z'; exact z')) (fun z => kf (fun q => z ((i64_le x y).mpr (by rw [hX, hY]; exact q))))
end IntRows
theorem nIt {n : Nat} (h : n ≤ 100000) : (nI n).toInt = (n : Int) := nI_toInt (by omega)
/-- an index in range is a small number -/
theorem ofm {x : Int32} {n : Nat} (h0 : 0 ≤ x.toInt) (h1 : x.toInt < n) (hn : n ≤ 100000) : ∃ i, i < n ∧ x = nI i := by
  refine ⟨x.toInt.toNat, by omega, ?_⟩
  rw [i32_eq, nIt (by omega)]
  omega
theorem i64_sub1 {n : Nat} (h : n ≤ 100000) : (Int32.toInt64 (nI n) - 1).toInt = (n : Int) - 1 := by
  rw [Int64.toInt_sub, wid, nIt h]
  exact Int.bmod_eq_of_le (by simp; omega) (by simp; omega)
theorem toL {n : Nat} (h : n ≤ 100000) : (Int32.toInt64 (nI n)).toInt = (n : Int) := by rw [wid, nIt h]
end
section
/-! contracts: Letter, Stamp, the constructors of what is kept -/
def ltN (h : HP) (l m n : Nat) (t : Int64) : HP := sI (sL (sP (sP h l 0 (some m)) l 1 (some n)) l 2 t) l 3 0
set_option maxRecDepth 100000 in
set_option maxHeartbeats 4000000 in
theorem ct_Letter {g : GG} {h : HP} {Post : Option Value → HP → Prop} (l m n : Nat) (t : Int64) (hk : kd l = 1) (hl : liv h l = true) (hp : Post none (ltN h l m n t)) : CT g mX1_init [.ref l, .ref m, .ref n, .long t] h Post := by
  show WP g mX1_init 0 [(0, .ref l), (1, .ref m), (2, .ref n), (3, .long t)] [] h 0 0 Post
  refine wp_aload_n dX1_init_0 rfl 0 rfl ?_
  refine wp_obj dX1_init_1 mlX1_3 imObj cdObj (by decide) (Nat.le_of_ble_eq_true rfl) ?_
  refine wp_aload_n dX1_init_4 rfl 0 rfl ?_
  refine wp_aload_n dX1_init_5 rfl 1 rfl ?_
  refine wp_putP dX1_init_6 flX1_9 (Or.inr ⟨rfl, rfl, rfl⟩) rfl hk hl ?_
  refine wp_aload_n dX1_init_9 rfl 0 rfl ?_
  refine wp_aload_n dX1_init_10 rfl 2 rfl ?_
  refine wp_putP dX1_init_11 flX1_15 (Or.inr ⟨rfl, rfl, rfl⟩) rfl hk hl ?_
  refine wp_aload_n dX1_init_14 rfl 0 rfl ?_
  refine wp_lload_n dX1_init_15 rfl 3 rfl ?_
  refine wp_putL dX1_init_16 flX1_18 (Or.inr ⟨rfl, rfl, rfl⟩) rfl hk hl ?_
  refine wp_aload_n dX1_init_19 rfl 0 rfl ?_
  refine wp_iconst (v := 0) dX1_init_20 (by decide) ?_
  refine wp_putI dX1_init_21 flX1_22 (Or.inl rfl) rfl rfl rfl hk hl ?_
  refine wp_vret dX1_init_24 rfl (by decide) (by decide) ?_
  exact hp
def stN (h : HP) (k : Nat) (lo hi : Int64) (m r : Int32) : HP := sI (sI (sL (sL h k 0 lo) k 1 hi) k 2 m) k 3 r
set_option maxRecDepth 100000 in
set_option maxHeartbeats 4000000 in
theorem ct_Stamp {g : GG} {h : HP} {Post : Option Value → HP → Prop} (k : Nat) (lo hi : Int64) (m r : Int32) (hr : r = 0 ∨ r = 1) (hk : kd k = 5) (hl : liv h k = true) (hp : Post none (stN h k lo hi m r)) : CT g mX5_init [.ref k, .long lo, .long hi, .int m, .int r] h Post := by
  show WP g mX5_init 0 [(0, .ref k), (1, .long lo), (3, .long hi), (5, .int m), (6, .int r)] [] h 0 0 Post
  refine wp_aload_n dX5_init_0 rfl 0 rfl ?_
  refine wp_obj dX5_init_1 mlX5_1 imObj cdObj (by decide) (Nat.le_of_ble_eq_true rfl) ?_
  refine wp_aload_n dX5_init_4 rfl 0 rfl ?_
  refine wp_lload_n dX5_init_5 rfl 1 rfl ?_
  refine wp_putL dX5_init_6 flX5_7 (Or.inr ⟨rfl, rfl, rfl⟩) rfl hk hl ?_
  refine wp_aload_n dX5_init_9 rfl 0 rfl ?_
  refine wp_lload_n dX5_init_10 rfl 2 rfl ?_
  refine wp_putL dX5_init_11 flX5_13 (Or.inr ⟨rfl, rfl, rfl⟩) rfl hk hl ?_
  refine wp_aload_n dX5_init_14 rfl 0 rfl ?_
  refine wp_iload dX5_init_15 3 rfl ?_
  refine wp_putI dX5_init_17 flX5_16 (Or.inr ⟨rfl, rfl, rfl⟩) rfl rfl rfl hk hl ?_
  refine wp_aload_n dX5_init_20 rfl 0 rfl ?_
  refine wp_iload dX5_init_21 4 rfl ?_
  refine wp_putI dX5_init_23 flX5_20 (Or.inr ⟨rfl, rfl, rfl⟩) rfl (nb_n hr) (nb_f hr) hk hl ?_
  refine wp_vret dX5_init_26 rfl (by decide) (by decide) ?_
  exact hp
def mb1 (h : HP) (a : Nat) (num kind p e : Int32) (now : Int64) : HP := sI (sI (sL (sI (sI (sI (sI h a 0 num) a 1 kind) a 2 p) a 3 e) a 4 now) a 5 1) a 6 1
def mb2 (h : HP) (a o : Nat) (e : Int32) (now : Int64) : HP := sL (spP (sP (sN h o) a 8 (some o)) o (now - Int32.toInt64 e) (now + Int32.toInt64 e) 0) a 12 (now - Int32.toInt64 e)
def mbN (h : HP) (a o r : Nat) (num kind p e : Int32) (now : Int64) : HP := sP (sN (mb2 (mb1 h a num kind p e now) a o e now) r) a 9 (some r)
set_option maxRecDepth 100000 in
set_option maxHeartbeats 4000000 in
theorem ct_Member {g : GG} {h : HP} {Post : Option Value → HP → Prop} (a o r : Nat) (num kind p e : Int32) (now : Int64) (hk : kd a = 2) (hl : liv h a = true) (hko : kd o = 4) (hfo : liv h o = false) (hkr : kd r = 14) (hfr : liv h r = false) (hn : ln r = 10) (hp : Post none (mbN h a o r num kind p e now)) : CT g mX2_init [.ref a, .int num, .int kind, .int p, .int e, .long now] h Post := by
  show WP g mX2_init 0 [(0, .ref a), (1, .int num), (2, .int kind), (3, .int p), (4, .int e), (5, .long now)] [] h 0 0 Post
  refine wp_aload_n dX2_init_0 rfl 0 rfl ?_
  refine wp_obj dX2_init_1 mlX2_3 imObj cdObj (by decide) (Nat.le_of_ble_eq_true rfl) ?_
  refine wp_aload_n dX2_init_4 rfl 0 rfl ?_
  refine wp_iload_n dX2_init_5 rfl 1 rfl ?_
  refine wp_putI dX2_init_6 flX2_9 (Or.inr ⟨rfl, rfl, rfl⟩) rfl rfl rfl hk hl ?_
  refine wp_aload_n dX2_init_9 rfl 0 rfl ?_
  refine wp_iload_n dX2_init_10 rfl 2 rfl ?_
  refine wp_putI dX2_init_11 flX2_15 (Or.inr ⟨rfl, rfl, rfl⟩) rfl rfl rfl hk hl ?_
  refine wp_aload_n dX2_init_14 rfl 0 rfl ?_
  refine wp_iload_n dX2_init_15 rfl 3 rfl ?_
  refine wp_putI dX2_init_16 flX2_18 (Or.inr ⟨rfl, rfl, rfl⟩) rfl rfl rfl hk hl ?_
  refine wp_aload_n dX2_init_19 rfl 0 rfl ?_
  refine wp_iload dX2_init_20 4 rfl ?_
  refine wp_putI dX2_init_22 flX2_21 (Or.inr ⟨rfl, rfl, rfl⟩) rfl rfl rfl hk hl ?_
  refine wp_aload_n dX2_init_25 rfl 0 rfl ?_
  refine wp_pc (pc' := 26) rfl ?_
  refine wp_lload dX2_init_26 5 rfl ?_
  refine wp_putL dX2_init_28 flX2_24 (Or.inr ⟨rfl, rfl, rfl⟩) rfl hk hl ?_
  refine wp_aload_n dX2_init_31 rfl 0 rfl ?_
  refine wp_iconst (v := 1) dX2_init_32 (by decide) ?_
  refine wp_putI dX2_init_33 flX2_28 (Or.inl rfl) rfl rfl rfl hk hl ?_
  refine wp_aload_n dX2_init_36 rfl 0 rfl ?_
  refine wp_iconst (v := 1) dX2_init_37 (by decide) ?_
  refine wp_putI dX2_init_38 flX2_31 (Or.inl rfl) rfl rfl rfl hk hl ?_
  refine wp_aload_n dX2_init_41 rfl 0 rfl ?_
  refine wp_new o (c := 4) dX2_init_42 (by decide) clX2_34 nsX4 nzX4 hko hfo (by decide) (by decide) ?_
  refine wp_dup dX2_init_45 rfl ?_
  refine wp_callIN mX4_init o [] [.ref o, .ref a] dX2_init_46 iX4_init (fun _ => trivial) rfl rfl nlX2_36 imX4_init ⟨by decide, by decide⟩ rfl rfl (Nat.le_of_ble_eq_true rfl) (Nat.le_of_ble_eq_true rfl) (by decide) (by decide) ?_
  refine ct_Span o ?_
  show WP g mX2_init 49 [(0, .ref a), (1, .int num), (2, .int kind), (3, .int p), (4, .int e), (5, .long now)] [.ref o, .ref a] _ 1 4 _
  refine wp_putP dX2_init_49 flX2_37 (Or.inr ⟨rfl, rfl, rfl⟩) rfl hk (livN hl) ?_
  refine wp_aload_n dX2_init_52 rfl 0 rfl ?_
  refine wp_getP (b := o) dX2_init_53 flX2_37 rfl hk (livN hl) (by simp [vP, sI, sL, sP, up2]) ?_
  refine wp_pc (pc' := 56) rfl ?_
  refine wp_lload dX2_init_56 5 rfl ?_
  refine wp_iload dX2_init_58 4 rfl ?_
  refine wp_i2l dX2_init_60 ?_
  refine wp_lsub dX2_init_61 ?_
  refine wp_lload dX2_init_62 5 rfl ?_
  refine wp_iload dX2_init_64 4 rfl ?_
  refine wp_i2l dX2_init_66 ?_
  refine wp_ladd dX2_init_67 ?_
  refine wp_lconst (v := 0) dX2_init_68 rfl ?_
  refine wp_callV mX4_put o [.long (now - (Int32.toInt64 e)), .long (now + (Int32.toInt64 e)), .long 0] [] (c := 4) dX2_init_69 iX4_put (fun _ => trivial) mlX2_41 imX4_put seX4_put (by decide) rfl hko ⟨by decide, by decide⟩ rfl rfl (Nat.le_of_ble_eq_true rfl) (Nat.le_of_ble_eq_true rfl) (by decide) (by decide) ?_
  refine ct_put o (now - (Int32.toInt64 e)) (now + (Int32.toInt64 e)) 0 hko (liv_new _ o) ?_
  show WP g mX2_init 72 [(0, .ref a), (1, .int num), (2, .int kind), (3, .int p), (4, .int e), (5, .long now)] [] _ 1 4 _
  refine wp_aload_n dX2_init_72 rfl 0 rfl ?_
  refine wp_lload dX2_init_73 5 rfl ?_
  refine wp_iload dX2_init_75 4 rfl ?_
  refine wp_i2l dX2_init_77 ?_
  refine wp_lsub dX2_init_78 ?_
  refine wp_pc (pc' := 79) rfl ?_
  refine wp_putL dX2_init_79 flX2_45 (Or.inl rfl) rfl hk (livN hl) ?_
  refine wp_aload_n dX2_init_82 rfl 0 rfl ?_
  refine wp_bipush (v := 10) dX2_init_83 (by decide) ?_
  refine wp_newQ r (t := 14) dX2_init_85 (by decide) (by decide) clX2_34 hkr (by show liv (sN _ o) r = false; rw [liv_other (kd_ne hkr hko (by decide))]; exact hfr) (by decide) (by rw [hn]; rfl) (by rw [hn]; decide) (by decide) (by rw [hn]; decide) ?_
  refine wp_putP dX2_init_88 flX2_48 (Or.inr ⟨rfl, rfl, rfl⟩) rfl hk (livN (livN hl)) ?_
  refine wp_vret dX2_init_91 rfl (by decide) (by rw [hn]; decide) ?_
  exact hp
def uw (h : HP) (l : Nat) : Prop := vI h l 3 = 0 ∨ vI h l 3 = 1
set_option maxRecDepth 100000 in
set_option maxHeartbeats 4000000 in
theorem ct_isUnderWay {g : GG} {h : HP} {Post : Option Value → HP → Prop} (l : Nat) (hk : kd l = 1) (hl : liv h l = true) (hy : uw h l → Post (some (.int 1)) h) (hn : ¬ uw h l → Post (some (.int 0)) h) : CT g mX1_isUnderWay [.ref l] h Post := by
  show WP g mX1_isUnderWay 0 [(0, .ref l)] [] h 0 0 Post
  refine wp_aload_n dX1_isUnderWay_0 rfl 0 rfl ?_
  refine wp_getI dX1_isUnderWay_1 flX1_22 rfl hk hl ?_
  refine wp_if_eq (tgt := 15) dX1_isUnderWay_4 (by decide) (fun c_1 => ?_) (fun c_1 => ?_)
  · refine wp_iconst (v := 1) dX1_isUnderWay_15 (by decide) ?_
    refine wp_goto (tgt := 20) dX1_isUnderWay_16 (by decide) ?_
    refine wp_zret dX1_isUnderWay_20 rfl (by decide) (by decide) rfl ?_
    exact hy (Or.inl c_1)
  · refine wp_aload_n dX1_isUnderWay_7 rfl 0 rfl ?_
    refine wp_getI dX1_isUnderWay_8 flX1_22 rfl hk hl ?_
    refine wp_iconst (v := 1) dX1_isUnderWay_11 (by decide) ?_
    refine wp_icmp_ne (tgt := 19) dX1_isUnderWay_12 (by decide) (fun c_2 => ?_) (fun c_2 => ?_)
    · refine wp_iconst (v := 0) dX1_isUnderWay_19 (by decide) ?_
      refine wp_zret dX1_isUnderWay_20 rfl (by decide) (by decide) rfl ?_
      exact hn (fun q => q.elim c_1 c_2)
    · refine wp_iconst (v := 1) dX1_isUnderWay_15 (by decide) ?_
      refine wp_goto (tgt := 20) dX1_isUnderWay_16 (by decide) ?_
      refine wp_zret dX1_isUnderWay_20 rfl (by decide) (by decide) rfl ?_
      exact hy (Or.inr c_2)
theorem cCn_congr {h h' : HP} {a : Nat} {now : Int64} (e1 : vI h' a = vI h a) (e2 : vL h' a = vL h a) : cCn h' a now = cCn h a now := by unfold cCn; rw [e1, e2]
theorem cLo_congr {h h' : HP} {a o : Nat} {now : Int64} (e1 : vI h' a = vI h a) (e2 : vL h' a = vL h a) (e3 : vL h' o = vL h o) : cLo h' a o now = cLo h a o now := by unfold cLo sLo; rw [cCn_congr e1 e2, e1, e3]
theorem cHi_congr {h h' : HP} {a o : Nat} {now : Int64} (e1 : vI h' a = vI h a) (e2 : vL h' a = vL h a) (e3 : vL h' o = vL h o) : cHi h' a o now = cHi h a o now := by unfold cHi sHi; rw [cCn_congr e1 e2, e1, e3]
def tkH (h : HP) (l : Nat) (lo hi : Int64) : HP := sI (sI (sL (sL h l 5 lo) l 6 hi) l 4 1) l 3 1
def tak (h : HP) (l n o : Nat) (now : Int64) : HP := if vI h n 1 = 4 then tkH h l (vL h n 10) (vL h n 11) else tkH h l (cLo h n o now) (cHi h n o now)
set_option maxRecDepth 100000 in
set_option maxHeartbeats 4000000 in
theorem ct_takeAnswer {g : GG} {h : HP} {Post : Option Value → HP → Prop} (l n o : Nat) (now : Int64) (hk : kd l = 1) (hl : liv h l = true) (hm : vP h l 1 = some n) (hkn : kd n = 2) (hln : liv h n = true) (hno : vP h n 8 = some o) (hko : kd o = 4) (hlo : liv h o = true) (hp : Post none (tak h l n o now)) : CT g mX1_takeAnswer [.ref l, .long now] h Post := by
  show WP g mX1_takeAnswer 0 [(0, .ref l), (1, .long now)] [] h 0 0 Post
  refine wp_aload_n dX1_takeAnswer_0 rfl 0 rfl ?_
  refine wp_getP (b := n) dX1_takeAnswer_1 flX1_15 rfl hk hl hm ?_
  refine wp_getI dX1_takeAnswer_4 flX1_26 rfl hkn hln ?_
  refine wp_iconst (v := 4) dX1_takeAnswer_7 (by decide) ?_
  refine wp_icmp_ne (tgt := 15) dX1_takeAnswer_8 (by decide) (fun c_1 => ?_) (fun c_1 => ?_)
  · refine wp_iconst (v := 0) dX1_takeAnswer_15 (by decide) ?_
    refine wp_istore_n (lv' := [(3, .int 0), (0, .ref l), (1, .long now)]) dX1_takeAnswer_16 rfl (by decide) rfl ?_
    refine wp_aload_n dX1_takeAnswer_17 rfl 1 rfl ?_
    refine wp_iload_n dX1_takeAnswer_18 rfl 0 rfl ?_
    refine wp_if_eq (tgt := 32) dX1_takeAnswer_19 (by decide) (fun _ => ?_) (fun c_2 => absurd (by decide) c_2)
    refine wp_aload_n dX1_takeAnswer_32 rfl 1 rfl ?_
    refine wp_getP (b := n) dX1_takeAnswer_33 flX1_15 rfl hk hl hm ?_
    refine wp_lload_n dX1_takeAnswer_36 rfl 2 rfl ?_
    refine wp_callV mX2_lowAt n [.long now] [.ref l] (c := 2) dX1_takeAnswer_37 iX2_lowAt (fun _ => trivial) mlX1_34 imX2_lowAt seX2_lowAt (by decide) rfl hkn ⟨by decide, by decide⟩ rfl rfl (Nat.le_of_ble_eq_true rfl) (Nat.le_of_ble_eq_true rfl) (by decide) (by decide) ?_
    refine ct_lowAt n o now hkn hln hno hko hlo ?_
    show WP g mX1_takeAnswer 40 [(3, .int 0), (0, .ref l), (1, .long now)] [.long (cLo h n o now), .ref l] _ 0 0 _
    refine wp_putL dX1_takeAnswer_40 flX1_38 (Or.inl rfl) rfl hk hl ?_
    refine wp_aload_n dX1_takeAnswer_43 rfl 1 rfl ?_
    refine wp_iload_n dX1_takeAnswer_44 rfl 0 rfl ?_
    refine wp_if_eq (tgt := 58) dX1_takeAnswer_45 (by decide) (fun _ => ?_) (fun c_3 => absurd (by decide) c_3)
    refine wp_aload_n dX1_takeAnswer_58 rfl 1 rfl ?_
    refine wp_pc (pc' := 59) rfl ?_
    refine wp_getP (b := n) dX1_takeAnswer_59 flX1_15 rfl hk hl hm ?_
    refine wp_lload_n dX1_takeAnswer_62 rfl 2 rfl ?_
    refine wp_callV mX2_highAt n [.long now] [.ref l] (c := 2) dX1_takeAnswer_63 iX2_highAt (fun _ => trivial) mlX1_44 imX2_highAt seX2_highAt (by decide) rfl hkn ⟨by decide, by decide⟩ rfl rfl (Nat.le_of_ble_eq_true rfl) (Nat.le_of_ble_eq_true rfl) (by decide) (by decide) ?_
    refine ct_highAt n o now hkn hln hno hko hlo ?_
    rw [cHi_congr (h := h) (h' := sL h l 5 _) (a := n) (o := o) rfl (up2_ne (kd_ne hkn hk (by decide))) (up2_ne (kd_ne hko hk (by decide)))]
    show WP g mX1_takeAnswer 66 [(3, .int 0), (0, .ref l), (1, .long now)] [.long (cHi h n o now), .ref l] _ 0 0 _
    refine wp_putL dX1_takeAnswer_66 flX1_47 (Or.inl rfl) rfl hk hl ?_
    refine wp_aload_n dX1_takeAnswer_69 rfl 1 rfl ?_
    refine wp_iconst (v := 1) dX1_takeAnswer_70 (by decide) ?_
    refine wp_putI dX1_takeAnswer_71 flX1_50 (Or.inl rfl) rfl rfl rfl hk hl ?_
    refine wp_aload_n dX1_takeAnswer_74 rfl 1 rfl ?_
    refine wp_iconst (v := 1) dX1_takeAnswer_75 (by decide) ?_
    refine wp_putI dX1_takeAnswer_76 flX1_22 (Or.inl rfl) rfl rfl rfl hk hl ?_
    refine wp_vret dX1_takeAnswer_79 rfl (by decide) (by decide) ?_
    have q := hp
    unfold tak at q
    rw [if_neg c_1] at q
    exact q
  · refine wp_iconst (v := 1) dX1_takeAnswer_11 (by decide) ?_
    refine wp_goto (tgt := 16) dX1_takeAnswer_12 (by decide) ?_
    refine wp_istore_n (lv' := [(3, .int 1), (0, .ref l), (1, .long now)]) dX1_takeAnswer_16 rfl (by decide) rfl ?_
    refine wp_aload_n dX1_takeAnswer_17 rfl 1 rfl ?_
    refine wp_iload_n dX1_takeAnswer_18 rfl 0 rfl ?_
    refine wp_if_eq (tgt := 32) dX1_takeAnswer_19 (by decide) (fun c_4 => absurd c_4 (by decide)) (fun _ => ?_)
    refine wp_aload_n dX1_takeAnswer_22 rfl 1 rfl ?_
    refine wp_getP (b := n) dX1_takeAnswer_23 flX1_15 rfl hk hl hm ?_
    refine wp_getL dX1_takeAnswer_26 flX1_31 rfl hkn hln ?_
    refine wp_goto (tgt := 40) dX1_takeAnswer_29 (by decide) ?_
    refine wp_putL dX1_takeAnswer_40 flX1_38 (Or.inl rfl) rfl hk hl ?_
    refine wp_aload_n dX1_takeAnswer_43 rfl 1 rfl ?_
    refine wp_iload_n dX1_takeAnswer_44 rfl 0 rfl ?_
    refine wp_if_eq (tgt := 58) dX1_takeAnswer_45 (by decide) (fun c_5 => absurd c_5 (by decide)) (fun _ => ?_)
    refine wp_pc (pc' := 48) rfl ?_
    refine wp_aload_n dX1_takeAnswer_48 rfl 1 rfl ?_
    refine wp_getP (b := n) dX1_takeAnswer_49 flX1_15 rfl hk hl hm ?_
    refine wv_getL (vL h n 11) dX1_takeAnswer_52 flX1_41 rfl hkn hln (congrFun (up2_ne (kd_ne hkn hk (by decide))) 11) ?_
    refine wp_goto (tgt := 66) dX1_takeAnswer_55 (by decide) ?_
    refine wp_putL dX1_takeAnswer_66 flX1_47 (Or.inl rfl) rfl hk hl ?_
    refine wp_aload_n dX1_takeAnswer_69 rfl 1 rfl ?_
    refine wp_iconst (v := 1) dX1_takeAnswer_70 (by decide) ?_
    refine wp_putI dX1_takeAnswer_71 flX1_50 (Or.inl rfl) rfl rfl rfl hk hl ?_
    refine wp_aload_n dX1_takeAnswer_74 rfl 1 rfl ?_
    refine wp_iconst (v := 1) dX1_takeAnswer_75 (by decide) ?_
    refine wp_putI dX1_takeAnswer_76 flX1_22 (Or.inl rfl) rfl rfl rfl hk hl ?_
    refine wp_vret dX1_takeAnswer_79 rfl (by decide) (by decide) ?_
    have q := hp
    unfold tak at q
    rw [if_pos c_1] at q
    exact q
def brg (h : HP) (l m r j b0 : Nat) (now : Int64) : HP := sI (heaH h r j b0 (vL h l 5) (vL h l 6 + aMo (cCn h m now - vL h l 2) (vI h m 2)) (cCn h m now)) l 3 2
theorem heaH_liv {h : HP} {r j b0 : Nat} {lo hi c : Int64} {a : Nat} (hl : liv h a = true) : liv (heaH h r j b0 lo hi c) a = true := by
  unfold heaH
  split
  · exact livN hl
  · exact hl
set_option maxRecDepth 100000 in
set_option maxHeartbeats 4000000 in
theorem ct_bringBack {g : GG} {h : HP} {Post : Option Value → HP → Prop} (l m n r j b0 : Nat) (now : Int64) (hkl : kd l = 1) (hll : liv h l = true) (hma : vP h l 0 = some m) (hna : vP h l 1 = some n) (hkn : kd n = 2) (hln : liv h n = true) (hnum : vI h n 0 = nI j) (hk : kd m = 2) (hl : liv h m = true) (hr : vP h m 9 = some r) (hkr : kd r = 14) (hlr : liv h r = true) (hn : ln r = 10) (hj : j < 10) (hb : ∀ b, vP h r j = some b → kd b = 4 ∧ liv h b = true) (hb0 : vP h r j = none → kd b0 = 4 ∧ liv h b0 = false) (hp : Post none (brg h l m r j b0 now)) : CT g mX1_bringBack [.ref l, .long now] h Post := by
  show WP g mX1_bringBack 0 [(0, .ref l), (1, .long now)] [] h 0 0 Post
  refine wp_aload_n dX1_bringBack_0 rfl 0 rfl ?_
  refine wp_getP (b := m) dX1_bringBack_1 flX1_9 rfl hkl hll hma ?_
  refine wp_lload_n dX1_bringBack_4 rfl 1 rfl ?_
  refine wp_callV mX2_countedAt m [.long now] [] (c := 2) dX1_bringBack_5 iX2_countedAt (fun _ => trivial) mlX1_54 imX2_countedAt seX2_countedAt (by decide) rfl hk ⟨by decide, by decide⟩ rfl rfl (Nat.le_of_ble_eq_true rfl) (Nat.le_of_ble_eq_true rfl) (by decide) (by decide) ?_
  refine ct_countedAt m now hk hl ?_
  show WP g mX1_bringBack 8 [(0, .ref l), (1, .long now)] [.long (cCn h m now)] _ 0 0 _
  refine wp_lstore_n (lv' := [(3, .long (cCn h m now)), (0, .ref l), (1, .long now)]) dX1_bringBack_8 rfl (by decide) rfl ?_
  refine wp_aload_n dX1_bringBack_9 rfl 1 rfl ?_
  refine wp_getP (b := m) dX1_bringBack_10 flX1_9 rfl hkl hll hma ?_
  refine wp_aload_n dX1_bringBack_13 rfl 1 rfl ?_
  refine wp_getP (b := n) dX1_bringBack_14 flX1_15 rfl hkl hll hna ?_
  refine wv_getI (nI j) dX1_bringBack_17 flX1_57 rfl hkn hln hnum ?_
  refine wp_aload_n dX1_bringBack_20 rfl 1 rfl ?_
  refine wp_getL dX1_bringBack_21 flX1_38 rfl hkl hll ?_
  refine wp_aload_n dX1_bringBack_24 rfl 1 rfl ?_
  refine wp_getL dX1_bringBack_25 flX1_47 rfl hkl hll ?_
  refine wp_lload_n dX1_bringBack_28 rfl 0 rfl ?_
  refine wp_pc (pc' := 29) rfl ?_
  refine wp_aload_n dX1_bringBack_29 rfl 1 rfl ?_
  refine wp_getL dX1_bringBack_30 flX1_18 rfl hkl hll ?_
  refine wp_lsub dX1_bringBack_33 ?_
  refine wp_aload_n dX1_bringBack_34 rfl 1 rfl ?_
  refine wp_getP (b := m) dX1_bringBack_35 flX1_9 rfl hkl hll hma ?_
  refine wp_getI dX1_bringBack_38 flX1_60 rfl hk hl ?_
  refine wp_callSN mX6_atMost [.long ((cCn h m now) - (vL h l 2)), .int (vI h m 2)] [.long (vL h l 6), .long (vL h l 5), .int (nI j), .ref m] dX1_bringBack_41 iX6_atMost (fun _ => trivial) nlX1_63 stX6_atMost ⟨by decide, by decide⟩ rfl rfl (Nat.le_of_ble_eq_true rfl) (Nat.le_of_ble_eq_true rfl) (by decide) (by decide) ?_
  refine ct_atMost ((cCn h m now) - (vL h l 2)) (vI h m 2)  ?_
  show WP g mX1_bringBack 44 [(3, .long (cCn h m now)), (0, .ref l), (1, .long now)] [.long (aMo ((cCn h m now) - (vL h l 2)) (vI h m 2)), .long (vL h l 6), .long (vL h l 5), .int (nI j), .ref m] _ 0 0 _
  refine wp_ladd dX1_bringBack_44 ?_
  refine wp_lload_n dX1_bringBack_45 rfl 0 rfl ?_
  refine wp_callV mX2_hear m [.int (nI j), .long (vL h l 5), .long ((vL h l 6) + (aMo ((cCn h m now) - (vL h l 2)) (vI h m 2))), .long (cCn h m now)] [] (c := 2) dX1_bringBack_46 iX2_hear (fun _ => trivial) mlX1_67 imX2_hear seX2_hear (by decide) rfl hk ⟨by decide, by decide⟩ rfl rfl (Nat.le_of_ble_eq_true rfl) (Nat.le_of_ble_eq_true rfl) (by decide) (by decide) ?_
  refine ct_hear m r j b0 (vL h l 5) ((vL h l 6) + (aMo ((cCn h m now) - (vL h l 2)) (vI h m 2))) (cCn h m now) hk hl hr hkr hlr hn hj hb hb0 ?_
  show WP g mX1_bringBack 49 [(3, .long (cCn h m now)), (0, .ref l), (1, .long now)] [] _ 1 4 _
  refine wp_aload_n dX1_bringBack_49 rfl 1 rfl ?_
  refine wp_iconst (v := 2) dX1_bringBack_50 (by decide) ?_
  refine wp_putI dX1_bringBack_51 flX1_22 (Or.inl rfl) rfl rfl rfl hkl (heaH_liv hll) ?_
  refine wp_vret dX1_bringBack_54 rfl (by decide) (by decide) ?_
  exact hp
end
section
/-! contracts: the Gathering (number 5; rows 6, 7, 8) -/
def GW (h : HP) : Prop := liv h 5 = true ∧ liv h 6 = true ∧ liv h 7 = true ∧ liv h 8 = true ∧ vP h 5 0 = some 6 ∧ vP h 5 1 = some 7 ∧ vP h 5 2 = some 8
def gaH (h : HP) (n : Nat) (num : Int32) (lo hi : Int64) : HP := sI (sL (sL (sI h 6 n num) 7 n lo) 8 n hi) 5 3 (nI (n + 1))
def hvN (L H : Nat → Int64) (t : Int64) : Nat → Nat
  | 0 => 0
  | n + 1 => hvN L H t n + (if L n ≤ t ∧ t ≤ H n then 1 else 0)
theorem hvN_yes {L H : Nat → Int64} {t : Int64} {n : Nat} (h1 : L n ≤ t) (h2 : t ≤ H n) : hvN L H t (n + 1) = hvN L H t n + 1 := by
  show hvN L H t n + (if L n ≤ t ∧ t ≤ H n then 1 else 0) = _
  rw [if_pos ⟨h1, h2⟩]
theorem hvN_no {L H : Nat → Int64} {t : Int64} {n : Nat} (h1 : ¬ (L n ≤ t ∧ t ≤ H n)) : hvN L H t (n + 1) = hvN L H t n := by
  show hvN L H t n + (if L n ≤ t ∧ t ≤ H n then 1 else 0) = _
  rw [if_neg h1]; rfl
theorem hvN_le (L H : Nat → Int64) (t : Int64) : ∀ n, hvN L H t n ≤ n
  | 0 => Nat.le_refl 0
  | n + 1 => by
    have := hvN_le L H t n
    show hvN L H t n + (if L n ≤ t ∧ t ≤ H n then 1 else 0) ≤ n + 1
    split <;> omega
set_option maxRecDepth 100000 in
set_option maxHeartbeats 4000000 in
theorem ct_clear {g : GG} {h : HP} {Post : Option Value → HP → Prop} (hl : liv h 5 = true) (hp : Post none (sI h 5 3 0)) : CT g mX0_clear [.ref 5] h Post := by
  show WP g mX0_clear 0 [(0, .ref 5)] [] h 0 0 Post
  refine wp_aload_n dX0_clear_0 rfl 0 rfl ?_
  refine wp_iconst (v := 0) dX0_clear_1 (by decide) ?_
  refine wp_putI dX0_clear_2 flX0_22 (Or.inl rfl) rfl rfl rfl rfl hl ?_
  refine wp_vret dX0_clear_5 rfl (by decide) (by decide) ?_
  exact hp
set_option maxRecDepth 100000 in
set_option maxHeartbeats 4000000 in
theorem ct_add {g : GG} {h : HP} {Post : Option Value → HP → Prop} (n : Nat) (num : Int32) (lo hi : Int64) (hs : n < 10) (hg : GW h) (hsz : vI h 5 3 = nI n) (hp : Post none (gaH h n num lo hi)) : CT g mX0_add [.ref 5, .int num, .long lo, .long hi] h Post := by
  show WP g mX0_add 0 [(0, .ref 5), (1, .int num), (2, .long lo), (4, .long hi)] [] h 0 0 Post
  refine wp_aload_n dX0_add_0 rfl 0 rfl ?_
  refine wv_getI (nI n) dX0_add_1 flX0_22 rfl rfl hg.1 (by simpa [vI, sI, sL, up2] using hsz) ?_
  refine wp_aload_n dX0_add_4 rfl 0 rfl ?_
  refine wp_getP (b := 6) dX0_add_5 flX0_9 rfl rfl hg.1 hg.2.2.2.2.1 ?_
  refine wp_alen (n := nI 10) dX0_add_8 rfl (by decide) (by decide) hg.2.1 rfl ?_
  refine wp_icmp_lt (tgt := 13) dX0_add_9 (by decide) (fun _ => ?_) (fun c_1 => absurd (nI_lt hs (by omega)) c_1)
  refine wp_aload_n dX0_add_13 rfl 0 rfl ?_
  refine wp_getP (b := 6) dX0_add_14 flX0_9 rfl rfl hg.1 hg.2.2.2.2.1 ?_
  refine wp_aload_n dX0_add_17 rfl 0 rfl ?_
  refine wv_getI (nI n) dX0_add_18 flX0_22 rfl rfl hg.1 (by simpa [vI, sI, sL, up2] using hsz) ?_
  refine wp_iload_n dX0_add_21 rfl 1 rfl ?_
  refine wv_iast n dX0_add_22 rfl hg.2.1 rfl (by show n < 10; omega) ?_
  refine wp_aload_n dX0_add_23 rfl 0 rfl ?_
  refine wp_getP (b := 7) dX0_add_24 flX0_15 rfl rfl hg.1 hg.2.2.2.2.2.1 ?_
  refine wp_aload_n dX0_add_27 rfl 0 rfl ?_
  refine wp_pc (pc' := 28) rfl ?_
  refine wv_getI (nI n) dX0_add_28 flX0_22 rfl rfl hg.1 (by simpa [vI, sI, sL, up2] using hsz) ?_
  refine wp_lload_n dX0_add_31 rfl 2 rfl ?_
  refine wv_last n dX0_add_32 rfl hg.2.2.1 rfl (by show n < 10; omega) ?_
  refine wp_aload_n dX0_add_33 rfl 0 rfl ?_
  refine wp_getP (b := 8) dX0_add_34 flX0_19 rfl rfl hg.1 hg.2.2.2.2.2.2 ?_
  refine wp_aload_n dX0_add_37 rfl 0 rfl ?_
  refine wv_getI (nI n) dX0_add_38 flX0_22 rfl rfl hg.1 (by simpa [vI, sI, sL, up2] using hsz) ?_
  refine wp_lload dX0_add_41 3 rfl ?_
  refine wv_last n dX0_add_43 rfl hg.2.2.2.1 rfl (by show n < 10; omega) ?_
  refine wp_aload_n dX0_add_44 rfl 0 rfl ?_
  refine wp_dup dX0_add_45 rfl ?_
  refine wv_getI (nI n) dX0_add_46 flX0_22 rfl rfl hg.1 (by simpa [vI, sI, sL, up2] using hsz) ?_
  refine wp_iconst (v := 1) dX0_add_49 (by decide) ?_
  refine wv_iadd (nI (n + 1)) (wN_add rfl rfl) dX0_add_50 ?_
  refine wp_putI dX0_add_51 flX0_22 (Or.inl rfl) rfl rfl rfl rfl hg.1 ?_
  refine wp_pc (pc' := 54) rfl ?_
  refine wp_vret dX0_add_54 rfl (by decide) (by decide) ?_
  exact hp
set_option maxRecDepth 100000 in
set_option maxHeartbeats 4000000 in
theorem lp_having {g : GG} {h : HP} {Post : Option Value → HP → Prop} (s : Nat) (hs : s ≤ 10) (hg : GW h) (hsz : vI h 5 3 = nI s) (t : Int64) (hp : Post (some (.int (nI (hvN (vL h 7) (vL h 8) t s)))) h) : ∀ (k n : Nat), n + k = s → WP g mX0_having 5 [(0, .ref 5), (1, .long t), (3, .int (nI (hvN (vL h 7) (vL h 8) t n))), (4, .int (nI n))] [] h 0 0 Post := by
  intro k
  induction k with
  | zero =>
    intro n e0
    refine wp_iload dX0_having_5 3 rfl ?_
    refine wp_aload_n dX0_having_7 rfl 0 rfl ?_
    refine wv_getI (nI s) dX0_having_8 flX0_22 rfl rfl hg.1 hsz ?_
    refine wp_icmp_ge (tgt := 47) dX0_having_11 (by decide) (fun _ => ?_) (fun c_1 => absurd (nI_le (by omega) (by omega)) c_1)
    refine wp_iload_n dX0_having_47 rfl 2 rfl ?_
    refine wp_iret dX0_having_48 rfl (by decide) (by decide) ?_
    rw [show n = s by omega]
    exact hp
  | succ k ih =>
    intro n e0
    refine wp_iload dX0_having_5 3 rfl ?_
    refine wp_aload_n dX0_having_7 rfl 0 rfl ?_
    refine wv_getI (nI s) dX0_having_8 flX0_22 rfl rfl hg.1 hsz ?_
    refine wp_icmp_ge (tgt := 47) dX0_having_11 (by decide) (fun c_1 => absurd c_1 (nI_ge (by omega) (by omega))) (fun _ => ?_)
    refine wp_aload_n dX0_having_14 rfl 0 rfl ?_
    refine wp_getP (b := 7) dX0_having_15 flX0_15 rfl rfl hg.1 hg.2.2.2.2.2.1 ?_
    refine wp_iload dX0_having_18 3 rfl ?_
    refine wv_lald n (vL h 7 n) dX0_having_20 rfl hg.2.2.1 rfl (by show n < 10; omega) rfl ?_
    refine wp_lload_n dX0_having_21 rfl 1 rfl ?_
    refine wl_gt (tgt := 41) dX0_having_22 dX0_having_23 (by decide) (fun c_2 => ?_) (fun c_2 => ?_)
    · refine wp_iinc (q := 3) (x := nI n) (v := nI (n + 1)) (lv' := [(4, .int (nI (n + 1))), (0, .ref 5), (1, .long t), (3, .int (nI (hvN (vL h 7) (vL h 8) t n)))]) dX0_having_41 rfl (nI_1 _) (by decide) rfl ?_
      refine wp_goto (tgt := 5) dX0_having_44 (by decide) ?_
      refine wp_sub [1, 2, 3, 0] rfl ?_
      have q := ih (n + 1) (by omega)
      rw [hvN_no (fun z => absurd z.1 (Int64.not_le.mpr c_2))] at q
      exact q
    · refine wp_lload_n dX0_having_26 rfl 1 rfl ?_
      refine wp_aload_n dX0_having_27 rfl 0 rfl ?_
      refine wp_getP (b := 8) dX0_having_28 flX0_19 rfl rfl hg.1 hg.2.2.2.2.2.2 ?_
      refine wp_iload dX0_having_31 3 rfl ?_
      refine wv_lald n (vL h 8 n) dX0_having_33 rfl hg.2.2.2.1 rfl (by show n < 10; omega) rfl ?_
      refine wl_gt (tgt := 41) dX0_having_34 dX0_having_35 (by decide) (fun c_3 => ?_) (fun c_3 => ?_)
      · refine wp_iinc (q := 3) (x := nI n) (v := nI (n + 1)) (lv' := [(4, .int (nI (n + 1))), (0, .ref 5), (1, .long t), (3, .int (nI (hvN (vL h 7) (vL h 8) t n)))]) dX0_having_41 rfl (nI_1 _) (by decide) rfl ?_
        refine wp_goto (tgt := 5) dX0_having_44 (by decide) ?_
        refine wp_sub [1, 2, 3, 0] rfl ?_
        have q := ih (n + 1) (by omega)
        rw [hvN_no (fun z => absurd z.2 (Int64.not_le.mpr c_3))] at q
        exact q
      · refine wp_iinc (q := 2) (x := nI (hvN (vL h 7) (vL h 8) t n)) (v := nI (hvN (vL h 7) (vL h 8) t n + 1)) (lv' := [(3, .int (nI (hvN (vL h 7) (vL h 8) t n + 1))), (0, .ref 5), (1, .long t), (4, .int (nI n))]) dX0_having_38 rfl (nI_1 _) (by decide) rfl ?_
        refine wp_iinc (q := 3) (x := nI n) (v := nI (n + 1)) (lv' := [(4, .int (nI (n + 1))), (3, .int (nI (hvN (vL h 7) (vL h 8) t n + 1))), (0, .ref 5), (1, .long t)]) dX0_having_41 rfl (nI_1 _) (by decide) rfl ?_
        refine wp_goto (tgt := 5) dX0_having_44 (by decide) ?_
        refine wp_sub [2, 3, 1, 0] rfl ?_
        have q := ih (n + 1) (by omega)
        rw [hvN_yes (Int64.not_lt.mp c_2) (Int64.not_lt.mp c_3)] at q
        exact q
set_option maxRecDepth 100000 in
set_option maxHeartbeats 4000000 in
theorem ct_having {g : GG} {h : HP} {Post : Option Value → HP → Prop} (s : Nat) (hs : s ≤ 10) (hg : GW h) (hsz : vI h 5 3 = nI s) (t : Int64) (hp : Post (some (.int (nI (hvN (vL h 7) (vL h 8) t s)))) h) : CT g mX0_having [.ref 5, .long t] h Post := by
  show WP g mX0_having 0 [(0, .ref 5), (1, .long t)] [] h 0 0 Post
  refine wp_iconst (v := 0) dX0_having_0 (by decide) ?_
  refine wp_istore_n (lv' := [(3, .int 0), (0, .ref 5), (1, .long t)]) dX0_having_1 rfl (by decide) rfl ?_
  refine wp_iconst (v := 0) dX0_having_2 (by decide) ?_
  refine wp_istore (lv' := [(4, .int 0), (3, .int 0), (0, .ref 5), (1, .long t)]) dX0_having_3 (by decide) rfl ?_
  refine wp_sub [2, 3, 1, 0] rfl ?_
  exact lp_having s hs hg hsz t hp s 0 (by omega)
def NOv : Int64 := -9000000000000000000
def lsN (L H : Nat → Int64) (s : Nat) (nd : Int32) : Nat → Int64
  | 0 => NOv
  | n + 1 => if nd ≤ nI (hvN L H (L n) s) ∧ (lsN L H s nd n = NOv ∨ L n < lsN L H s nd n) then L n else lsN L H s nd n
def grN (L H : Nat → Int64) (s : Nat) (nd : Int32) : Nat → Int64
  | 0 => NOv
  | n + 1 => if nd ≤ nI (hvN L H (H n) s) ∧ (grN L H s nd n = NOv ∨ grN L H s nd n < H n) then H n else grN L H s nd n
theorem lsN_yes {L H : Nat → Int64} {s n : Nat} {nd : Int32} (h1 : nd ≤ nI (hvN L H (L n) s) ∧ (lsN L H s nd n = NOv ∨ L n < lsN L H s nd n)) : lsN L H s nd (n + 1) = L n := if_pos h1
theorem lsN_no {L H : Nat → Int64} {s n : Nat} {nd : Int32} (h1 : ¬ (nd ≤ nI (hvN L H (L n) s) ∧ (lsN L H s nd n = NOv ∨ L n < lsN L H s nd n))) : lsN L H s nd (n + 1) = lsN L H s nd n := if_neg h1
theorem grN_yes {L H : Nat → Int64} {s n : Nat} {nd : Int32} (h1 : nd ≤ nI (hvN L H (H n) s) ∧ (grN L H s nd n = NOv ∨ grN L H s nd n < H n)) : grN L H s nd (n + 1) = H n := if_pos h1
theorem grN_no {L H : Nat → Int64} {s n : Nat} {nd : Int32} (h1 : ¬ (nd ≤ nI (hvN L H (H n) s) ∧ (grN L H s nd n = NOv ∨ grN L H s nd n < H n))) : grN L H s nd (n + 1) = grN L H s nd n := if_neg h1
set_option maxRecDepth 100000 in
set_option maxHeartbeats 4000000 in
theorem lp_least {g : GG} {h : HP} {Post : Option Value → HP → Prop} (s : Nat) (hs : s ≤ 10) (hg : GW h) (hsz : vI h 5 3 = nI s) (nd : Int32) (hp : Post (some (.long (lsN (vL h 7) (vL h 8) s nd s))) h) : ∀ (k n : Nat), n + k = s → WP g mX0_least 7 [(0, .ref 5), (1, .int nd), (2, .long (lsN (vL h 7) (vL h 8) s nd n)), (4, .int (nI n))] [] h 0 0 Post := by
  intro k
  induction k with
  | zero =>
    intro n e0
    refine wp_iload dX0_least_7 3 rfl ?_
    refine wp_aload_n dX0_least_9 rfl 0 rfl ?_
    refine wv_getI (nI s) dX0_least_10 flX0_22 rfl rfl hg.1 hsz ?_
    refine wp_icmp_ge (tgt := 65) dX0_least_13 (by decide) (fun _ => ?_) (fun c_1 => absurd (nI_le (by omega) (by omega)) c_1)
    refine wp_lload_n dX0_least_65 rfl 2 rfl ?_
    refine wp_lret dX0_least_66 rfl (by decide) (by decide) ?_
    rw [show n = s by omega]
    exact hp
  | succ k ih =>
    intro n e0
    refine wp_iload dX0_least_7 3 rfl ?_
    refine wp_aload_n dX0_least_9 rfl 0 rfl ?_
    refine wv_getI (nI s) dX0_least_10 flX0_22 rfl rfl hg.1 hsz ?_
    refine wp_icmp_ge (tgt := 65) dX0_least_13 (by decide) (fun c_1 => absurd c_1 (nI_ge (by omega) (by omega))) (fun _ => ?_)
    refine wp_aload_n dX0_least_16 rfl 0 rfl ?_
    refine wp_aload_n dX0_least_17 rfl 0 rfl ?_
    refine wp_getP (b := 7) dX0_least_18 flX0_15 rfl rfl hg.1 hg.2.2.2.2.2.1 ?_
    refine wp_iload dX0_least_21 3 rfl ?_
    refine wv_lald n (vL h 7 n) dX0_least_23 rfl hg.2.2.1 rfl (by show n < 10; omega) rfl ?_
    refine wp_callV mX0_having 5 [.long (vL h 7 n)] [] (c := 0) dX0_least_24 iX0_having (fun _ => trivial) mlX0_28 imX0_having seX0_having (by decide) rfl rfl ⟨by decide, by decide⟩ rfl rfl (Nat.le_of_ble_eq_true rfl) (Nat.le_of_ble_eq_true rfl) (by decide) (by decide) ?_
    refine ct_having s hs hg hsz (vL h 7 n)  ?_
    show WP g mX0_least 27 [(0, .ref 5), (1, .int nd), (2, .long (lsN (vL h 7) (vL h 8) s nd n)), (4, .int (nI n))] [.int (nI (hvN (vL h 7) (vL h 8) (vL h 7 n) s))] _ 0 0 _
    refine wp_iload_n dX0_least_27 rfl 1 rfl ?_
    refine wp_icmp_lt (tgt := 59) dX0_least_28 (by decide) (fun c_2 => ?_) (fun c_2 => ?_)
    · refine wp_iinc (q := 3) (x := nI n) (v := nI (n + 1)) (lv' := [(4, .int (nI (n + 1))), (0, .ref 5), (1, .int nd), (2, .long (lsN (vL h 7) (vL h 8) s nd n))]) dX0_least_59 rfl (nI_1 _) (by decide) rfl ?_
      refine wp_goto (tgt := 7) dX0_least_62 (by decide) ?_
      refine wp_sub [1, 2, 3, 0] rfl ?_
      have q := ih (n + 1) (by omega)
      rw [lsN_no (fun z => absurd z.1 (Int32.not_le.mpr c_2))] at q
      exact q
    · refine wp_lload_n dX0_least_31 rfl 2 rfl ?_
      refine wp_ldc2 dX0_least_32 cnX0_26 ?_
      refine wl_eq (tgt := 51) dX0_least_35 dX0_least_36 (by decide) (fun c_3 => ?_) (fun c_3 => ?_)
      · refine wp_aload_n dX0_least_51 rfl 0 rfl ?_
        refine wp_getP (b := 7) dX0_least_52 flX0_15 rfl rfl hg.1 hg.2.2.2.2.2.1 ?_
        refine wp_iload dX0_least_55 3 rfl ?_
        refine wv_lald n (vL h 7 n) dX0_least_57 rfl hg.2.2.1 rfl (by show n < 10; omega) rfl ?_
        refine wp_lstore_n (lv' := [(2, .long (vL h 7 n)), (0, .ref 5), (1, .int nd), (4, .int (nI n))]) dX0_least_58 rfl (by decide) rfl ?_
        refine wp_iinc (q := 3) (x := nI n) (v := nI (n + 1)) (lv' := [(4, .int (nI (n + 1))), (2, .long (vL h 7 n)), (0, .ref 5), (1, .int nd)]) dX0_least_59 rfl (nI_1 _) (by decide) rfl ?_
        refine wp_goto (tgt := 7) dX0_least_62 (by decide) ?_
        refine wp_sub [2, 3, 1, 0] rfl ?_
        have q := ih (n + 1) (by omega)
        rw [lsN_yes ⟨(Int32.not_lt.mp c_2), Or.inl c_3⟩] at q
        exact q
      · refine wp_aload_n dX0_least_39 rfl 0 rfl ?_
        refine wp_getP (b := 7) dX0_least_40 flX0_15 rfl rfl hg.1 hg.2.2.2.2.2.1 ?_
        refine wp_iload dX0_least_43 3 rfl ?_
        refine wv_lald n (vL h 7 n) dX0_least_45 rfl hg.2.2.1 rfl (by show n < 10; omega) rfl ?_
        refine wp_lload_n dX0_least_46 rfl 2 rfl ?_
        refine wl_ge (tgt := 59) dX0_least_47 dX0_least_48 (by decide) (fun c_4 => ?_) (fun c_4 => ?_)
        · refine wp_iinc (q := 3) (x := nI n) (v := nI (n + 1)) (lv' := [(4, .int (nI (n + 1))), (0, .ref 5), (1, .int nd), (2, .long (lsN (vL h 7) (vL h 8) s nd n))]) dX0_least_59 rfl (nI_1 _) (by decide) rfl ?_
          refine wp_goto (tgt := 7) dX0_least_62 (by decide) ?_
          refine wp_sub [1, 2, 3, 0] rfl ?_
          have q := ih (n + 1) (by omega)
          rw [lsN_no (fun z => z.2.elim c_3 (fun y => absurd y (Int64.not_lt.mpr c_4)))] at q
          exact q
        · refine wp_aload_n dX0_least_51 rfl 0 rfl ?_
          refine wp_getP (b := 7) dX0_least_52 flX0_15 rfl rfl hg.1 hg.2.2.2.2.2.1 ?_
          refine wp_iload dX0_least_55 3 rfl ?_
          refine wv_lald n (vL h 7 n) dX0_least_57 rfl hg.2.2.1 rfl (by show n < 10; omega) rfl ?_
          refine wp_lstore_n (lv' := [(2, .long (vL h 7 n)), (0, .ref 5), (1, .int nd), (4, .int (nI n))]) dX0_least_58 rfl (by decide) rfl ?_
          refine wp_iinc (q := 3) (x := nI n) (v := nI (n + 1)) (lv' := [(4, .int (nI (n + 1))), (2, .long (vL h 7 n)), (0, .ref 5), (1, .int nd)]) dX0_least_59 rfl (nI_1 _) (by decide) rfl ?_
          refine wp_goto (tgt := 7) dX0_least_62 (by decide) ?_
          refine wp_sub [2, 3, 1, 0] rfl ?_
          have q := ih (n + 1) (by omega)
          rw [lsN_yes ⟨(Int32.not_lt.mp c_2), Or.inr (Int64.not_le.mp c_4)⟩] at q
          exact q
set_option maxRecDepth 100000 in
set_option maxHeartbeats 4000000 in
theorem ct_least {g : GG} {h : HP} {Post : Option Value → HP → Prop} (s : Nat) (hs : s ≤ 10) (hg : GW h) (hsz : vI h 5 3 = nI s) (nd : Int32) (hp : Post (some (.long (lsN (vL h 7) (vL h 8) s nd s))) h) : CT g mX0_least [.ref 5, .int nd] h Post := by
  show WP g mX0_least 0 [(0, .ref 5), (1, .int nd)] [] h 0 0 Post
  refine wp_ldc2 dX0_least_0 cnX0_26 ?_
  refine wp_lstore_n (lv' := [(2, .long ((-9000000000000000000))), (0, .ref 5), (1, .int nd)]) dX0_least_3 rfl (by decide) rfl ?_
  refine wp_iconst (v := 0) dX0_least_4 (by decide) ?_
  refine wp_istore (lv' := [(4, .int 0), (2, .long ((-9000000000000000000))), (0, .ref 5), (1, .int nd)]) dX0_least_5 (by decide) rfl ?_
  refine wp_sub [2, 3, 1, 0] rfl ?_
  exact lp_least s hs hg hsz nd hp s 0 (by omega)
set_option maxRecDepth 100000 in
set_option maxHeartbeats 4000000 in
theorem lp_greatest {g : GG} {h : HP} {Post : Option Value → HP → Prop} (s : Nat) (hs : s ≤ 10) (hg : GW h) (hsz : vI h 5 3 = nI s) (nd : Int32) (hp : Post (some (.long (grN (vL h 7) (vL h 8) s nd s))) h) : ∀ (k n : Nat), n + k = s → WP g mX0_greatest 7 [(0, .ref 5), (1, .int nd), (2, .long (grN (vL h 7) (vL h 8) s nd n)), (4, .int (nI n))] [] h 0 0 Post := by
  intro k
  induction k with
  | zero =>
    intro n e0
    refine wp_iload dX0_greatest_7 3 rfl ?_
    refine wp_aload_n dX0_greatest_9 rfl 0 rfl ?_
    refine wv_getI (nI s) dX0_greatest_10 flX0_22 rfl rfl hg.1 hsz ?_
    refine wp_icmp_ge (tgt := 65) dX0_greatest_13 (by decide) (fun _ => ?_) (fun c_1 => absurd (nI_le (by omega) (by omega)) c_1)
    refine wp_lload_n dX0_greatest_65 rfl 2 rfl ?_
    refine wp_lret dX0_greatest_66 rfl (by decide) (by decide) ?_
    rw [show n = s by omega]
    exact hp
  | succ k ih =>
    intro n e0
    refine wp_iload dX0_greatest_7 3 rfl ?_
    refine wp_aload_n dX0_greatest_9 rfl 0 rfl ?_
    refine wv_getI (nI s) dX0_greatest_10 flX0_22 rfl rfl hg.1 hsz ?_
    refine wp_icmp_ge (tgt := 65) dX0_greatest_13 (by decide) (fun c_1 => absurd c_1 (nI_ge (by omega) (by omega))) (fun _ => ?_)
    refine wp_aload_n dX0_greatest_16 rfl 0 rfl ?_
    refine wp_aload_n dX0_greatest_17 rfl 0 rfl ?_
    refine wp_getP (b := 8) dX0_greatest_18 flX0_19 rfl rfl hg.1 hg.2.2.2.2.2.2 ?_
    refine wp_iload dX0_greatest_21 3 rfl ?_
    refine wv_lald n (vL h 8 n) dX0_greatest_23 rfl hg.2.2.2.1 rfl (by show n < 10; omega) rfl ?_
    refine wp_callV mX0_having 5 [.long (vL h 8 n)] [] (c := 0) dX0_greatest_24 iX0_having (fun _ => trivial) mlX0_28 imX0_having seX0_having (by decide) rfl rfl ⟨by decide, by decide⟩ rfl rfl (Nat.le_of_ble_eq_true rfl) (Nat.le_of_ble_eq_true rfl) (by decide) (by decide) ?_
    refine ct_having s hs hg hsz (vL h 8 n)  ?_
    show WP g mX0_greatest 27 [(0, .ref 5), (1, .int nd), (2, .long (grN (vL h 7) (vL h 8) s nd n)), (4, .int (nI n))] [.int (nI (hvN (vL h 7) (vL h 8) (vL h 8 n) s))] _ 0 0 _
    refine wp_iload_n dX0_greatest_27 rfl 1 rfl ?_
    refine wp_icmp_lt (tgt := 59) dX0_greatest_28 (by decide) (fun c_2 => ?_) (fun c_2 => ?_)
    · refine wp_iinc (q := 3) (x := nI n) (v := nI (n + 1)) (lv' := [(4, .int (nI (n + 1))), (0, .ref 5), (1, .int nd), (2, .long (grN (vL h 7) (vL h 8) s nd n))]) dX0_greatest_59 rfl (nI_1 _) (by decide) rfl ?_
      refine wp_goto (tgt := 7) dX0_greatest_62 (by decide) ?_
      refine wp_sub [1, 2, 3, 0] rfl ?_
      have q := ih (n + 1) (by omega)
      rw [grN_no (fun z => absurd z.1 (Int32.not_le.mpr c_2))] at q
      exact q
    · refine wp_lload_n dX0_greatest_31 rfl 2 rfl ?_
      refine wp_ldc2 dX0_greatest_32 cnX0_26 ?_
      refine wl_eq (tgt := 51) dX0_greatest_35 dX0_greatest_36 (by decide) (fun c_3 => ?_) (fun c_3 => ?_)
      · refine wp_aload_n dX0_greatest_51 rfl 0 rfl ?_
        refine wp_getP (b := 8) dX0_greatest_52 flX0_19 rfl rfl hg.1 hg.2.2.2.2.2.2 ?_
        refine wp_iload dX0_greatest_55 3 rfl ?_
        refine wv_lald n (vL h 8 n) dX0_greatest_57 rfl hg.2.2.2.1 rfl (by show n < 10; omega) rfl ?_
        refine wp_lstore_n (lv' := [(2, .long (vL h 8 n)), (0, .ref 5), (1, .int nd), (4, .int (nI n))]) dX0_greatest_58 rfl (by decide) rfl ?_
        refine wp_iinc (q := 3) (x := nI n) (v := nI (n + 1)) (lv' := [(4, .int (nI (n + 1))), (2, .long (vL h 8 n)), (0, .ref 5), (1, .int nd)]) dX0_greatest_59 rfl (nI_1 _) (by decide) rfl ?_
        refine wp_goto (tgt := 7) dX0_greatest_62 (by decide) ?_
        refine wp_sub [2, 3, 1, 0] rfl ?_
        have q := ih (n + 1) (by omega)
        rw [grN_yes ⟨(Int32.not_lt.mp c_2), Or.inl c_3⟩] at q
        exact q
      · refine wp_aload_n dX0_greatest_39 rfl 0 rfl ?_
        refine wp_getP (b := 8) dX0_greatest_40 flX0_19 rfl rfl hg.1 hg.2.2.2.2.2.2 ?_
        refine wp_iload dX0_greatest_43 3 rfl ?_
        refine wv_lald n (vL h 8 n) dX0_greatest_45 rfl hg.2.2.2.1 rfl (by show n < 10; omega) rfl ?_
        refine wp_lload_n dX0_greatest_46 rfl 2 rfl ?_
        refine wl_le (tgt := 59) dX0_greatest_47 dX0_greatest_48 (by decide) (fun c_4 => ?_) (fun c_4 => ?_)
        · refine wp_iinc (q := 3) (x := nI n) (v := nI (n + 1)) (lv' := [(4, .int (nI (n + 1))), (0, .ref 5), (1, .int nd), (2, .long (grN (vL h 7) (vL h 8) s nd n))]) dX0_greatest_59 rfl (nI_1 _) (by decide) rfl ?_
          refine wp_goto (tgt := 7) dX0_greatest_62 (by decide) ?_
          refine wp_sub [1, 2, 3, 0] rfl ?_
          have q := ih (n + 1) (by omega)
          rw [grN_no (fun z => z.2.elim c_3 (fun y => absurd y (Int64.not_lt.mpr c_4)))] at q
          exact q
        · refine wp_aload_n dX0_greatest_51 rfl 0 rfl ?_
          refine wp_getP (b := 8) dX0_greatest_52 flX0_19 rfl rfl hg.1 hg.2.2.2.2.2.2 ?_
          refine wp_iload dX0_greatest_55 3 rfl ?_
          refine wv_lald n (vL h 8 n) dX0_greatest_57 rfl hg.2.2.2.1 rfl (by show n < 10; omega) rfl ?_
          refine wp_lstore_n (lv' := [(2, .long (vL h 8 n)), (0, .ref 5), (1, .int nd), (4, .int (nI n))]) dX0_greatest_58 rfl (by decide) rfl ?_
          refine wp_iinc (q := 3) (x := nI n) (v := nI (n + 1)) (lv' := [(4, .int (nI (n + 1))), (2, .long (vL h 8 n)), (0, .ref 5), (1, .int nd)]) dX0_greatest_59 rfl (nI_1 _) (by decide) rfl ?_
          refine wp_goto (tgt := 7) dX0_greatest_62 (by decide) ?_
          refine wp_sub [2, 3, 1, 0] rfl ?_
          have q := ih (n + 1) (by omega)
          rw [grN_yes ⟨(Int32.not_lt.mp c_2), Or.inr (Int64.not_le.mp c_4)⟩] at q
          exact q
set_option maxRecDepth 100000 in
set_option maxHeartbeats 4000000 in
theorem ct_greatest {g : GG} {h : HP} {Post : Option Value → HP → Prop} (s : Nat) (hs : s ≤ 10) (hg : GW h) (hsz : vI h 5 3 = nI s) (nd : Int32) (hp : Post (some (.long (grN (vL h 7) (vL h 8) s nd s))) h) : CT g mX0_greatest [.ref 5, .int nd] h Post := by
  show WP g mX0_greatest 0 [(0, .ref 5), (1, .int nd)] [] h 0 0 Post
  refine wp_ldc2 dX0_greatest_0 cnX0_26 ?_
  refine wp_lstore_n (lv' := [(2, .long ((-9000000000000000000))), (0, .ref 5), (1, .int nd)]) dX0_greatest_3 rfl (by decide) rfl ?_
  refine wp_iconst (v := 0) dX0_greatest_4 (by decide) ?_
  refine wp_istore (lv' := [(4, .int 0), (2, .long ((-9000000000000000000))), (0, .ref 5), (1, .int nd)]) dX0_greatest_5 (by decide) rfl ?_
  refine wp_sub [2, 3, 1, 0] rfl ?_
  exact lp_greatest s hs hg hsz nd hp s 0 (by omega)
/-- did a span of an earlier place begin at the same time -/
def bgB (L : Nat → Int64) (i : Nat) : Nat → Prop
  | 0 => False
  | n + 1 => bgB L i n ∨ L n = L i
set_option maxRecDepth 100000 in
set_option maxHeartbeats 4000000 in
theorem lp_began {g : GG} {h : HP} {Post : Option Value → HP → Prop} (i : Nat) (hi : i < 10) (hg : GW h) (hy : (∃ j, j < i ∧ vL h 7 j = vL h 7 i) → Post (some (.int 1)) h) (hn : (¬ ∃ j, j < i ∧ vL h 7 j = vL h 7 i) → Post (some (.int 0)) h) : ∀ (k n : Nat), n + k = i → (∀ j, j < n → ¬ vL h 7 j = vL h 7 i) → WP g mX0_beganBefore 2 [(0, .ref 5), (1, .int (nI i)), (2, .int (nI n))] [] h 0 0 Post := by
  intro k
  induction k with
  | zero =>
    intro n e0 hb
    refine wp_iload_n dX0_beganBefore_2 rfl 2 rfl ?_
    refine wp_iload_n dX0_beganBefore_3 rfl 1 rfl ?_
    refine wp_icmp_ge (tgt := 31) dX0_beganBefore_4 (by decide) (fun _ => ?_) (fun c_1 => absurd (nI_le (by omega) (by omega)) c_1)
    refine wp_iconst (v := 0) dX0_beganBefore_31 (by decide) ?_
    refine wp_zret dX0_beganBefore_32 rfl (by decide) (by decide) rfl ?_
    exact hn (fun z => by obtain ⟨j, h1, h2⟩ := z; exact hb j (by omega) h2)
  | succ k ih =>
    intro n e0 hb
    refine wp_iload_n dX0_beganBefore_2 rfl 2 rfl ?_
    refine wp_iload_n dX0_beganBefore_3 rfl 1 rfl ?_
    refine wp_icmp_ge (tgt := 31) dX0_beganBefore_4 (by decide) (fun c_1 => absurd c_1 (nI_ge (by omega) (by omega))) (fun _ => ?_)
    refine wp_aload_n dX0_beganBefore_7 rfl 0 rfl ?_
    refine wp_getP (b := 7) dX0_beganBefore_8 flX0_15 rfl rfl hg.1 hg.2.2.2.2.2.1 ?_
    refine wp_iload_n dX0_beganBefore_11 rfl 2 rfl ?_
    refine wv_lald n (vL h 7 n) dX0_beganBefore_12 rfl hg.2.2.1 rfl (by show n < 10; omega) rfl ?_
    refine wp_aload_n dX0_beganBefore_13 rfl 0 rfl ?_
    refine wp_getP (b := 7) dX0_beganBefore_14 flX0_15 rfl rfl hg.1 hg.2.2.2.2.2.1 ?_
    refine wp_iload_n dX0_beganBefore_17 rfl 1 rfl ?_
    refine wv_lald i (vL h 7 i) dX0_beganBefore_18 rfl hg.2.2.1 rfl (by show i < 10; omega) rfl ?_
    refine wl_ne (tgt := 25) dX0_beganBefore_19 dX0_beganBefore_20 (by decide) (fun c_2 => ?_) (fun c_2 => ?_)
    · refine wp_iinc (q := 2) (x := nI n) (v := nI (n + 1)) (lv' := [(2, .int (nI (n + 1))), (0, .ref 5), (1, .int (nI i))]) dX0_beganBefore_25 rfl (nI_1 _) (by decide) rfl ?_
      refine wp_goto (tgt := 2) dX0_beganBefore_28 (by decide) ?_
      refine wp_sub [1, 2, 0] rfl ?_
      exact ih (n + 1) (by omega) (fun j hj => (Nat.lt_succ_iff_lt_or_eq.mp hj).elim (hb j) (fun z => by rw [z]; exact c_2))
    · refine wp_iconst (v := 1) dX0_beganBefore_23 (by decide) ?_
      refine wp_zret dX0_beganBefore_24 rfl (by decide) (by decide) rfl ?_
      exact hy ⟨n, by omega, c_2⟩
set_option maxRecDepth 100000 in
set_option maxHeartbeats 4000000 in
theorem ct_began {g : GG} {h : HP} {Post : Option Value → HP → Prop} (i : Nat) (hi : i < 10) (hg : GW h) (hy : (∃ j, j < i ∧ vL h 7 j = vL h 7 i) → Post (some (.int 1)) h) (hn : (¬ ∃ j, j < i ∧ vL h 7 j = vL h 7 i) → Post (some (.int 0)) h) : CT g mX0_beganBefore [.ref 5, .int (nI i)] h Post := by
  show WP g mX0_beganBefore 0 [(0, .ref 5), (1, .int (nI i))] [] h 0 0 Post
  refine wp_iconst (v := 0) dX0_beganBefore_0 (by decide) ?_
  refine wp_istore_n (lv' := [(2, .int 0), (0, .ref 5), (1, .int (nI i))]) dX0_beganBefore_1 rfl (by decide) rfl ?_
  refine wp_sub [1, 2, 0] rfl ?_
  exact lp_began i hi hg hy hn i 0 (by omega) (fun j hj => absurd hj (Nat.not_lt_zero j))
noncomputable def pcN (L H : Nat → Int64) (s : Nat) (nd : Int32) : Nat → Nat
  | 0 => 0
  | n + 1 => pcN L H s nd n + (@ite Nat (nd ≤ nI (hvN L H (L n) s) ∧ nI (hvN L H (L n - 1) s) < nd ∧ ¬ ∃ j, j < n ∧ L j = L n) (Classical.propDecidable _) 1 0)
theorem pcN_yes {L H : Nat → Int64} {s n : Nat} {nd : Int32} (h1 : nd ≤ nI (hvN L H (L n) s) ∧ nI (hvN L H (L n - 1) s) < nd ∧ ¬ ∃ j, j < n ∧ L j = L n) : pcN L H s nd (n + 1) = pcN L H s nd n + 1 := by
  show _ + (@ite Nat _ (Classical.propDecidable _) 1 0) = _
  rw [if_pos h1]
theorem pcN_no {L H : Nat → Int64} {s n : Nat} {nd : Int32} (h1 : ¬ (nd ≤ nI (hvN L H (L n) s) ∧ nI (hvN L H (L n - 1) s) < nd ∧ ¬ ∃ j, j < n ∧ L j = L n)) : pcN L H s nd (n + 1) = pcN L H s nd n := by
  show _ + (@ite Nat _ (Classical.propDecidable _) 1 0) = _
  rw [if_neg h1]; rfl
set_option maxRecDepth 100000 in
set_option maxHeartbeats 4000000 in
theorem lp_pieces {g : GG} {h : HP} {Post : Option Value → HP → Prop} (s : Nat) (hs : s ≤ 10) (hg : GW h) (hsz : vI h 5 3 = nI s) (nd : Int32) (hp : Post (some (.int (nI (pcN (vL h 7) (vL h 8) s nd s)))) h) : ∀ (k n : Nat), n + k = s → WP g mX0_pieces 4 [(0, .ref 5), (1, .int nd), (2, .int (nI (pcN (vL h 7) (vL h 8) s nd n))), (3, .int (nI n))] [] h 0 0 Post := by
  intro k
  induction k with
  | zero =>
    intro n e0
    refine wp_iload_n dX0_pieces_4 rfl 3 rfl ?_
    refine wp_aload_n dX0_pieces_5 rfl 0 rfl ?_
    refine wv_getI (nI s) dX0_pieces_6 flX0_22 rfl rfl hg.1 hsz ?_
    refine wp_icmp_ge (tgt := 71) dX0_pieces_9 (by decide) (fun _ => ?_) (fun c_1 => absurd (nI_le (by omega) (by omega)) c_1)
    refine wp_iload_n dX0_pieces_71 rfl 2 rfl ?_
    refine wp_iret dX0_pieces_72 rfl (by decide) (by decide) ?_
    rw [show n = s by omega]
    exact hp
  | succ k ih =>
    intro n e0
    refine wp_iload_n dX0_pieces_4 rfl 3 rfl ?_
    refine wp_aload_n dX0_pieces_5 rfl 0 rfl ?_
    refine wv_getI (nI s) dX0_pieces_6 flX0_22 rfl rfl hg.1 hsz ?_
    refine wp_icmp_ge (tgt := 71) dX0_pieces_9 (by decide) (fun c_1 => absurd c_1 (nI_ge (by omega) (by omega))) (fun _ => ?_)
    refine wp_aload_n dX0_pieces_12 rfl 0 rfl ?_
    refine wp_aload_n dX0_pieces_13 rfl 0 rfl ?_
    refine wp_getP (b := 7) dX0_pieces_14 flX0_15 rfl rfl hg.1 hg.2.2.2.2.2.1 ?_
    refine wp_iload_n dX0_pieces_17 rfl 3 rfl ?_
    refine wv_lald n (vL h 7 n) dX0_pieces_18 rfl hg.2.2.1 rfl (by show n < 10; omega) rfl ?_
    refine wp_callV mX0_having 5 [.long (vL h 7 n)] [] (c := 0) dX0_pieces_19 iX0_having (fun _ => trivial) mlX0_28 imX0_having seX0_having (by decide) rfl rfl ⟨by decide, by decide⟩ rfl rfl (Nat.le_of_ble_eq_true rfl) (Nat.le_of_ble_eq_true rfl) (by decide) (by decide) ?_
    refine ct_having s hs hg hsz (vL h 7 n)  ?_
    show WP g mX0_pieces 22 [(0, .ref 5), (1, .int nd), (2, .int (nI (pcN (vL h 7) (vL h 8) s nd n))), (3, .int (nI n))] [.int (nI (hvN (vL h 7) (vL h 8) (vL h 7 n) s))] _ 0 0 _
    refine wp_iload_n dX0_pieces_22 rfl 1 rfl ?_
    refine wp_icmp_lt (tgt := 46) dX0_pieces_23 (by decide) (fun c_2 => ?_) (fun c_2 => ?_)
    · refine wp_iconst (v := 0) dX0_pieces_46 (by decide) ?_
      refine wp_istore (lv' := [(4, .int 0), (0, .ref 5), (1, .int nd), (2, .int (nI (pcN (vL h 7) (vL h 8) s nd n))), (3, .int (nI n))]) dX0_pieces_47 (by decide) rfl ?_
      refine wp_iload dX0_pieces_49 0 rfl ?_
      refine wp_if_eq (tgt := 65) dX0_pieces_51 (by decide) (fun _ => ?_) (fun c_3 => absurd (by decide) c_3)
      refine wp_iinc (q := 4) (x := nI n) (v := nI (n + 1)) (lv' := [(3, .int (nI (n + 1))), (4, .int 0), (0, .ref 5), (1, .int nd), (2, .int (nI (pcN (vL h 7) (vL h 8) s nd n)))]) dX0_pieces_65 rfl (nI_1 _) (by decide) rfl ?_
      refine wp_goto (tgt := 4) dX0_pieces_68 (by decide) ?_
      refine wp_sub [2, 3, 4, 0] rfl ?_
      have q := ih (n + 1) (by omega)
      rw [pcN_no (fun z => absurd z.1 (Int32.not_le.mpr c_2))] at q
      exact q
    · refine wp_aload_n dX0_pieces_26 rfl 0 rfl ?_
      refine wp_aload_n dX0_pieces_27 rfl 0 rfl ?_
      refine wp_getP (b := 7) dX0_pieces_28 flX0_15 rfl rfl hg.1 hg.2.2.2.2.2.1 ?_
      refine wp_iload_n dX0_pieces_31 rfl 3 rfl ?_
      refine wv_lald n (vL h 7 n) dX0_pieces_32 rfl hg.2.2.1 rfl (by show n < 10; omega) rfl ?_
      refine wp_lconst (v := 1) dX0_pieces_33 rfl ?_
      refine wp_lsub dX0_pieces_34 ?_
      refine wp_callV mX0_having 5 [.long ((vL h 7 n) - 1)] [] (c := 0) dX0_pieces_35 iX0_having (fun _ => trivial) mlX0_28 imX0_having seX0_having (by decide) rfl rfl ⟨by decide, by decide⟩ rfl rfl (Nat.le_of_ble_eq_true rfl) (Nat.le_of_ble_eq_true rfl) (by decide) (by decide) ?_
      refine ct_having s hs hg hsz ((vL h 7 n) - 1)  ?_
      show WP g mX0_pieces 38 [(0, .ref 5), (1, .int nd), (2, .int (nI (pcN (vL h 7) (vL h 8) s nd n))), (3, .int (nI n))] [.int (nI (hvN (vL h 7) (vL h 8) ((vL h 7 n) - 1) s))] _ 0 0 _
      refine wp_iload_n dX0_pieces_38 rfl 1 rfl ?_
      refine wp_icmp_ge (tgt := 46) dX0_pieces_39 (by decide) (fun c_4 => ?_) (fun c_4 => ?_)
      · refine wp_iconst (v := 0) dX0_pieces_46 (by decide) ?_
        refine wp_istore (lv' := [(4, .int 0), (0, .ref 5), (1, .int nd), (2, .int (nI (pcN (vL h 7) (vL h 8) s nd n))), (3, .int (nI n))]) dX0_pieces_47 (by decide) rfl ?_
        refine wp_iload dX0_pieces_49 0 rfl ?_
        refine wp_if_eq (tgt := 65) dX0_pieces_51 (by decide) (fun _ => ?_) (fun c_5 => absurd (by decide) c_5)
        refine wp_iinc (q := 4) (x := nI n) (v := nI (n + 1)) (lv' := [(3, .int (nI (n + 1))), (4, .int 0), (0, .ref 5), (1, .int nd), (2, .int (nI (pcN (vL h 7) (vL h 8) s nd n)))]) dX0_pieces_65 rfl (nI_1 _) (by decide) rfl ?_
        refine wp_goto (tgt := 4) dX0_pieces_68 (by decide) ?_
        refine wp_sub [2, 3, 4, 0] rfl ?_
        have q := ih (n + 1) (by omega)
        rw [pcN_no (fun z => absurd z.2.1 (Int32.not_lt.mpr c_4))] at q
        exact q
      · refine wp_iconst (v := 1) dX0_pieces_42 (by decide) ?_
        refine wp_goto (tgt := 47) dX0_pieces_43 (by decide) ?_
        refine wp_istore (lv' := [(4, .int 1), (0, .ref 5), (1, .int nd), (2, .int (nI (pcN (vL h 7) (vL h 8) s nd n))), (3, .int (nI n))]) dX0_pieces_47 (by decide) rfl ?_
        refine wp_iload dX0_pieces_49 0 rfl ?_
        refine wp_if_eq (tgt := 65) dX0_pieces_51 (by decide) (fun c_6 => absurd c_6 (by decide)) (fun _ => ?_)
        refine wp_aload_n dX0_pieces_54 rfl 1 rfl ?_
        refine wp_iload_n dX0_pieces_55 rfl 4 rfl ?_
        refine wp_callV mX0_beganBefore 5 [.int (nI n)] [] (c := 0) dX0_pieces_56 iX0_beganBefore (fun _ => trivial) mlX0_32 imX0_beganBefore seX0_beganBefore (by decide) rfl rfl ⟨by decide, by decide⟩ rfl rfl (Nat.le_of_ble_eq_true rfl) (Nat.le_of_ble_eq_true rfl) (by decide) (by decide) ?_
        refine ct_began n (by omega) hg (fun hz => ?_) (fun hz => ?_)
        · show WP g mX0_pieces 59 [(4, .int 1), (0, .ref 5), (1, .int nd), (2, .int (nI (pcN (vL h 7) (vL h 8) s nd n))), (3, .int (nI n))] [.int 1] _ 0 0 _
          refine wp_if_ne (tgt := 65) dX0_pieces_59 (by decide) (fun _ => ?_) (fun c_7 => absurd c_7 (by decide))
          refine wp_iinc (q := 4) (x := nI n) (v := nI (n + 1)) (lv' := [(3, .int (nI (n + 1))), (4, .int 1), (0, .ref 5), (1, .int nd), (2, .int (nI (pcN (vL h 7) (vL h 8) s nd n)))]) dX0_pieces_65 rfl (nI_1 _) (by decide) rfl ?_
          refine wp_goto (tgt := 4) dX0_pieces_68 (by decide) ?_
          refine wp_sub [2, 3, 4, 0] rfl ?_
          have q := ih (n + 1) (by omega)
          rw [pcN_no (fun z => z.2.2 hz)] at q
          exact q
        · show WP g mX0_pieces 59 [(4, .int 1), (0, .ref 5), (1, .int nd), (2, .int (nI (pcN (vL h 7) (vL h 8) s nd n))), (3, .int (nI n))] [.int 0] _ 0 0 _
          refine wp_if_ne (tgt := 65) dX0_pieces_59 (by decide) (fun c_8 => absurd (by decide) c_8) (fun _ => ?_)
          refine wp_iinc (q := 3) (x := nI (pcN (vL h 7) (vL h 8) s nd n)) (v := nI (pcN (vL h 7) (vL h 8) s nd n + 1)) (lv' := [(2, .int (nI (pcN (vL h 7) (vL h 8) s nd n + 1))), (4, .int 1), (0, .ref 5), (1, .int nd), (3, .int (nI n))]) dX0_pieces_62 rfl (nI_1 _) (by decide) rfl ?_
          refine wp_iinc (q := 4) (x := nI n) (v := nI (n + 1)) (lv' := [(3, .int (nI (n + 1))), (2, .int (nI (pcN (vL h 7) (vL h 8) s nd n + 1))), (4, .int 1), (0, .ref 5), (1, .int nd)]) dX0_pieces_65 rfl (nI_1 _) (by decide) rfl ?_
          refine wp_goto (tgt := 4) dX0_pieces_68 (by decide) ?_
          refine wp_sub [3, 4, 1, 0] rfl ?_
          have q := ih (n + 1) (by omega)
          rw [pcN_yes ⟨Int32.not_lt.mp c_2, Int32.not_le.mp c_4, hz⟩] at q
          exact q
set_option maxRecDepth 100000 in
set_option maxHeartbeats 4000000 in
theorem ct_pieces {g : GG} {h : HP} {Post : Option Value → HP → Prop} (s : Nat) (hs : s ≤ 10) (hg : GW h) (hsz : vI h 5 3 = nI s) (nd : Int32) (hp : Post (some (.int (nI (pcN (vL h 7) (vL h 8) s nd s)))) h) : CT g mX0_pieces [.ref 5, .int nd] h Post := by
  show WP g mX0_pieces 0 [(0, .ref 5), (1, .int nd)] [] h 0 0 Post
  refine wp_iconst (v := 0) dX0_pieces_0 (by decide) ?_
  refine wp_istore_n (lv' := [(2, .int 0), (0, .ref 5), (1, .int nd)]) dX0_pieces_1 rfl (by decide) rfl ?_
  refine wp_iconst (v := 0) dX0_pieces_2 (by decide) ?_
  refine wp_istore_n (lv' := [(3, .int 0), (2, .int 0), (0, .ref 5), (1, .int nd)]) dX0_pieces_3 rfl (by decide) rfl ?_
  refine wp_sub [2, 3, 1, 0] rfl ?_
  exact lp_pieces s hs hg hsz nd hp s 0 (by omega)
def apN (W : Nat → Int32) (L H : Nat → Int64) (lo hi : Int64) : Nat → Int32
  | 0 => 0
  | n + 1 => if H n < lo ∨ hi < L n then apN W L H lo hi n ||| (1 <<< (W n &&& 31)) else apN W L H lo hi n
theorem apN_yes {W : Nat → Int32} {L H : Nat → Int64} {lo hi : Int64} {n : Nat} (h1 : H n < lo ∨ hi < L n) : apN W L H lo hi (n + 1) = apN W L H lo hi n ||| (1 <<< (W n &&& 31)) := if_pos h1
theorem apN_no {W : Nat → Int32} {L H : Nat → Int64} {lo hi : Int64} {n : Nat} (h1 : ¬ (H n < lo ∨ hi < L n)) : apN W L H lo hi (n + 1) = apN W L H lo hi n := if_neg h1
set_option maxRecDepth 100000 in
set_option maxHeartbeats 4000000 in
theorem lp_apart {g : GG} {h : HP} {Post : Option Value → HP → Prop} (s : Nat) (hs : s ≤ 10) (hg : GW h) (hsz : vI h 5 3 = nI s) (lo hi : Int64) (hp : Post (some (.int (apN (vI h 6) (vL h 7) (vL h 8) lo hi s))) h) : ∀ (k n : Nat), n + k = s → WP g mX0_apartFrom 6 [(0, .ref 5), (1, .long lo), (3, .long hi), (5, .int (apN (vI h 6) (vL h 7) (vL h 8) lo hi n)), (6, .int (nI n))] [] h 0 0 Post := by
  intro k
  induction k with
  | zero =>
    intro n e0
    refine wp_iload dX0_apartFrom_6 4 rfl ?_
    refine wp_aload_n dX0_apartFrom_8 rfl 0 rfl ?_
    refine wv_getI (nI s) dX0_apartFrom_9 flX0_22 rfl rfl hg.1 hsz ?_
    refine wp_icmp_ge (tgt := 59) dX0_apartFrom_12 (by decide) (fun _ => ?_) (fun c_1 => absurd (nI_le (by omega) (by omega)) c_1)
    refine wp_iload dX0_apartFrom_59 3 rfl ?_
    refine wp_iret dX0_apartFrom_61 rfl (by decide) (by decide) ?_
    rw [show n = s by omega]
    exact hp
  | succ k ih =>
    intro n e0
    refine wp_iload dX0_apartFrom_6 4 rfl ?_
    refine wp_aload_n dX0_apartFrom_8 rfl 0 rfl ?_
    refine wv_getI (nI s) dX0_apartFrom_9 flX0_22 rfl rfl hg.1 hsz ?_
    refine wp_icmp_ge (tgt := 59) dX0_apartFrom_12 (by decide) (fun c_1 => absurd c_1 (nI_ge (by omega) (by omega))) (fun _ => ?_)
    refine wp_aload_n dX0_apartFrom_15 rfl 0 rfl ?_
    refine wp_getP (b := 8) dX0_apartFrom_16 flX0_19 rfl rfl hg.1 hg.2.2.2.2.2.2 ?_
    refine wp_iload dX0_apartFrom_19 4 rfl ?_
    refine wv_lald n (vL h 8 n) dX0_apartFrom_21 rfl hg.2.2.2.1 rfl (by show n < 10; omega) rfl ?_
    refine wp_lload_n dX0_apartFrom_22 rfl 1 rfl ?_
    refine wl_lt (tgt := 39) dX0_apartFrom_23 dX0_apartFrom_24 (by decide) (fun c_2 => ?_) (fun c_2 => ?_)
    · refine wp_iload dX0_apartFrom_39 3 rfl ?_
      refine wp_iconst (v := 1) dX0_apartFrom_41 (by decide) ?_
      refine wp_aload_n dX0_apartFrom_42 rfl 0 rfl ?_
      refine wp_getP (b := 6) dX0_apartFrom_43 flX0_9 rfl rfl hg.1 hg.2.2.2.2.1 ?_
      refine wp_iload dX0_apartFrom_46 4 rfl ?_
      refine wv_iald n (vI h 6 n) dX0_apartFrom_48 rfl hg.2.1 rfl (by show n < 10; omega) rfl ?_
      refine wp_ishl dX0_apartFrom_49 ?_
      refine wp_ior dX0_apartFrom_50 ?_
      refine wp_istore (lv' := [(5, .int ((apN (vI h 6) (vL h 7) (vL h 8) lo hi n) ||| (1 <<< ((vI h 6 n) &&& 31)))), (0, .ref 5), (1, .long lo), (3, .long hi), (6, .int (nI n))]) dX0_apartFrom_51 (by decide) rfl ?_
      refine wp_iinc (q := 4) (x := nI n) (v := nI (n + 1)) (lv' := [(6, .int (nI (n + 1))), (5, .int ((apN (vI h 6) (vL h 7) (vL h 8) lo hi n) ||| (1 <<< ((vI h 6 n) &&& 31)))), (0, .ref 5), (1, .long lo), (3, .long hi)]) dX0_apartFrom_53 rfl (nI_1 _) (by decide) rfl ?_
      refine wp_goto (tgt := 6) dX0_apartFrom_56 (by decide) ?_
      refine wp_sub [2, 3, 4, 1, 0] rfl ?_
      have q := ih (n + 1) (by omega)
      rw [apN_yes (Or.inl c_2)] at q
      exact q
    · refine wp_aload_n dX0_apartFrom_27 rfl 0 rfl ?_
      refine wp_getP (b := 7) dX0_apartFrom_28 flX0_15 rfl rfl hg.1 hg.2.2.2.2.2.1 ?_
      refine wp_iload dX0_apartFrom_31 4 rfl ?_
      refine wv_lald n (vL h 7 n) dX0_apartFrom_33 rfl hg.2.2.1 rfl (by show n < 10; omega) rfl ?_
      refine wp_lload_n dX0_apartFrom_34 rfl 2 rfl ?_
      refine wl_le (tgt := 53) dX0_apartFrom_35 dX0_apartFrom_36 (by decide) (fun c_3 => ?_) (fun c_3 => ?_)
      · refine wp_iinc (q := 4) (x := nI n) (v := nI (n + 1)) (lv' := [(6, .int (nI (n + 1))), (0, .ref 5), (1, .long lo), (3, .long hi), (5, .int (apN (vI h 6) (vL h 7) (vL h 8) lo hi n))]) dX0_apartFrom_53 rfl (nI_1 _) (by decide) rfl ?_
        refine wp_goto (tgt := 6) dX0_apartFrom_56 (by decide) ?_
        refine wp_sub [1, 2, 3, 4, 0] rfl ?_
        have q := ih (n + 1) (by omega)
        rw [apN_no (fun z => z.elim c_2 (fun y => absurd y (Int64.not_lt.mpr c_3)))] at q
        exact q
      · refine wp_iload dX0_apartFrom_39 3 rfl ?_
        refine wp_iconst (v := 1) dX0_apartFrom_41 (by decide) ?_
        refine wp_aload_n dX0_apartFrom_42 rfl 0 rfl ?_
        refine wp_getP (b := 6) dX0_apartFrom_43 flX0_9 rfl rfl hg.1 hg.2.2.2.2.1 ?_
        refine wp_iload dX0_apartFrom_46 4 rfl ?_
        refine wv_iald n (vI h 6 n) dX0_apartFrom_48 rfl hg.2.1 rfl (by show n < 10; omega) rfl ?_
        refine wp_ishl dX0_apartFrom_49 ?_
        refine wp_ior dX0_apartFrom_50 ?_
        refine wp_istore (lv' := [(5, .int ((apN (vI h 6) (vL h 7) (vL h 8) lo hi n) ||| (1 <<< ((vI h 6 n) &&& 31)))), (0, .ref 5), (1, .long lo), (3, .long hi), (6, .int (nI n))]) dX0_apartFrom_51 (by decide) rfl ?_
        refine wp_iinc (q := 4) (x := nI n) (v := nI (n + 1)) (lv' := [(6, .int (nI (n + 1))), (5, .int ((apN (vI h 6) (vL h 7) (vL h 8) lo hi n) ||| (1 <<< ((vI h 6 n) &&& 31)))), (0, .ref 5), (1, .long lo), (3, .long hi)]) dX0_apartFrom_53 rfl (nI_1 _) (by decide) rfl ?_
        refine wp_goto (tgt := 6) dX0_apartFrom_56 (by decide) ?_
        refine wp_sub [2, 3, 4, 1, 0] rfl ?_
        have q := ih (n + 1) (by omega)
        rw [apN_yes (Or.inr (Int64.not_le.mp c_3))] at q
        exact q
set_option maxRecDepth 100000 in
set_option maxHeartbeats 4000000 in
theorem ct_apart {g : GG} {h : HP} {Post : Option Value → HP → Prop} (s : Nat) (hs : s ≤ 10) (hg : GW h) (hsz : vI h 5 3 = nI s) (lo hi : Int64) (hp : Post (some (.int (apN (vI h 6) (vL h 7) (vL h 8) lo hi s))) h) : CT g mX0_apartFrom [.ref 5, .long lo, .long hi] h Post := by
  show WP g mX0_apartFrom 0 [(0, .ref 5), (1, .long lo), (3, .long hi)] [] h 0 0 Post
  refine wp_iconst (v := 0) dX0_apartFrom_0 (by decide) ?_
  refine wp_istore (lv' := [(5, .int 0), (0, .ref 5), (1, .long lo), (3, .long hi)]) dX0_apartFrom_1 (by decide) rfl ?_
  refine wp_iconst (v := 0) dX0_apartFrom_3 (by decide) ?_
  refine wp_istore (lv' := [(6, .int 0), (5, .int 0), (0, .ref 5), (1, .long lo), (3, .long hi)]) dX0_apartFrom_4 (by decide) rfl ?_
  refine wp_sub [2, 3, 4, 1, 0] rfl ?_
  exact lp_apart s hs hg hsz lo hi hp s 0 (by omega)
end
section
theorem zz_end : True := trivial
end
