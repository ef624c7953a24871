-- ===== PART A: goes FIRST, ahead of the names: the tables' words, and 'selects' of the private methods out of them =====
/-- a private method of a class that the tables say can be made, by its rows of tables_1 -/
def lw_okq (q : MethodName × Nat) : Prop := (q.1.cls ≠ "java/lang/invoke/MethodHandle" ∧ q.1.cls ≠ "java/lang/invoke/VarHandle") ∧ Cond.instantiable q.1.cls q.2 ∈ tables_1 ∧ Cond.privateMethod q.1 ∈ tables_1 ∧ Cond.instanceMethod q.1 ∈ tables_1
theorem lw_p0 : lw_okq (⟨"ClockCouncil", "findMember", "(I)LClockCouncil$Member;"⟩, 9) := ⟨⟨by decide +kernel, by decide +kernel⟩, List.mem_of_getElem? (i := 11) (by decide +kernel), List.mem_of_getElem? (i := 242) (by decide +kernel), List.mem_of_getElem? (i := 243) (by decide +kernel)⟩
theorem lw_p1 : lw_okq (⟨"ClockCouncil", "addLetter", "(LClockCouncil$Letter;)J"⟩, 9) := ⟨⟨by decide +kernel, by decide +kernel⟩, List.mem_of_getElem? (i := 11) (by decide +kernel), List.mem_of_getElem? (i := 364) (by decide +kernel), List.mem_of_getElem? (i := 365) (by decide +kernel)⟩
theorem lw_p2 : lw_okq (⟨"ClockCouncil", "findUnderWay", "(I)LClockCouncil$Letter;"⟩, 9) := ⟨⟨by decide +kernel, by decide +kernel⟩, List.mem_of_getElem? (i := 11) (by decide +kernel), List.mem_of_getElem? (i := 372) (by decide +kernel), List.mem_of_getElem? (i := 373) (by decide +kernel)⟩
theorem lw_p3 : lw_okq (⟨"ClockCouncil", "findLetter", "(I)LClockCouncil$Letter;"⟩, 9) := ⟨⟨by decide +kernel, by decide +kernel⟩, List.mem_of_getElem? (i := 11) (by decide +kernel), List.mem_of_getElem? (i := 376) (by decide +kernel), List.mem_of_getElem? (i := 377) (by decide +kernel)⟩
theorem lw_p4 : lw_okq (⟨"ClockCouncil", "gather", "(LClockCouncil$Member;)V"⟩, 9) := ⟨⟨by decide +kernel, by decide +kernel⟩, List.mem_of_getElem? (i := 11) (by decide +kernel), List.mem_of_getElem? (i := 431) (by decide +kernel), List.mem_of_getElem? (i := 432) (by decide +kernel)⟩
theorem lw_p5 : lw_okq (⟨"ClockCouncil", "noteMeeting", "(I)V"⟩, 9) := ⟨⟨by decide +kernel, by decide +kernel⟩, List.mem_of_getElem? (i := 11) (by decide +kernel), List.mem_of_getElem? (i := 477) (by decide +kernel), List.mem_of_getElem? (i := 478) (by decide +kernel)⟩
theorem lw_p6 : lw_okq (⟨"ClockCouncil", "findStamp", "(I)LClockCouncil$Stamp;"⟩, 9) := ⟨⟨by decide +kernel, by decide +kernel⟩, List.mem_of_getElem? (i := 11) (by decide +kernel), List.mem_of_getElem? (i := 526) (by decide +kernel), List.mem_of_getElem? (i := 527) (by decide +kernel)⟩
theorem lw_p7 : lw_okq (⟨"ClockCouncil", "latestStamped", "()J"⟩, 9) := ⟨⟨by decide +kernel, by decide +kernel⟩, List.mem_of_getElem? (i := 11) (by decide +kernel), List.mem_of_getElem? (i := 539) (by decide +kernel), List.mem_of_getElem? (i := 540) (by decide +kernel)⟩
theorem lw_p8 : lw_okq (⟨"ClockCouncil", "howManyUnderWay", "()I"⟩, 9) := ⟨⟨by decide +kernel, by decide +kernel⟩, List.mem_of_getElem? (i := 11) (by decide +kernel), List.mem_of_getElem? (i := 624) (by decide +kernel), List.mem_of_getElem? (i := 625) (by decide +kernel)⟩
theorem lw_p9 : lw_okq (⟨"ClockCouncilModel", "isMember", "(I)Z"⟩, 52) := ⟨⟨by decide +kernel, by decide +kernel⟩, List.mem_of_getElem? (i := 628) (by decide +kernel), List.mem_of_getElem? (i := 813) (by decide +kernel), List.mem_of_getElem? (i := 814) (by decide +kernel)⟩
theorem lw_p10 : lw_okq (⟨"ClockCouncilModel", "counterOf", "(I)J"⟩, 52) := ⟨⟨by decide +kernel, by decide +kernel⟩, List.mem_of_getElem? (i := 628) (by decide +kernel), List.mem_of_getElem? (i := 832) (by decide +kernel), List.mem_of_getElem? (i := 833) (by decide +kernel)⟩
theorem lw_p11 : lw_okq (⟨"ClockCouncilModel", "lowOf", "(I)J"⟩, 52) := ⟨⟨by decide +kernel, by decide +kernel⟩, List.mem_of_getElem? (i := 628) (by decide +kernel), List.mem_of_getElem? (i := 843) (by decide +kernel), List.mem_of_getElem? (i := 844) (by decide +kernel)⟩
theorem lw_p12 : lw_okq (⟨"ClockCouncilModel", "atLeast", "(IJ)J"⟩, 52) := ⟨⟨by decide +kernel, by decide +kernel⟩, List.mem_of_getElem? (i := 628) (by decide +kernel), List.mem_of_getElem? (i := 847) (by decide +kernel), List.mem_of_getElem? (i := 848) (by decide +kernel)⟩
theorem lw_p13 : lw_okq (⟨"ClockCouncilModel", "highOf", "(I)J"⟩, 52) := ⟨⟨by decide +kernel, by decide +kernel⟩, List.mem_of_getElem? (i := 628) (by decide +kernel), List.mem_of_getElem? (i := 851) (by decide +kernel), List.mem_of_getElem? (i := 852) (by decide +kernel)⟩
theorem lw_p14 : lw_okq (⟨"ClockCouncilModel", "atMost", "(IJ)J"⟩, 52) := ⟨⟨by decide +kernel, by decide +kernel⟩, List.mem_of_getElem? (i := 628) (by decide +kernel), List.mem_of_getElem? (i := 855) (by decide +kernel), List.mem_of_getElem? (i := 856) (by decide +kernel)⟩
theorem lw_p15 : lw_okq (⟨"ClockCouncilModel", "heardMany", "(I)I"⟩, 52) := ⟨⟨by decide +kernel, by decide +kernel⟩, List.mem_of_getElem? (i := 628) (by decide +kernel), List.mem_of_getElem? (i := 862) (by decide +kernel), List.mem_of_getElem? (i := 863) (by decide +kernel)⟩
def lw_privs_1 : List (MethodName × Nat) := [(⟨"ClockCouncil", "findMember", "(I)LClockCouncil$Member;"⟩, 9), (⟨"ClockCouncil", "addLetter", "(LClockCouncil$Letter;)J"⟩, 9), (⟨"ClockCouncil", "findUnderWay", "(I)LClockCouncil$Letter;"⟩, 9), (⟨"ClockCouncil", "findLetter", "(I)LClockCouncil$Letter;"⟩, 9), (⟨"ClockCouncil", "gather", "(LClockCouncil$Member;)V"⟩, 9), (⟨"ClockCouncil", "noteMeeting", "(I)V"⟩, 9), (⟨"ClockCouncil", "findStamp", "(I)LClockCouncil$Stamp;"⟩, 9), (⟨"ClockCouncil", "latestStamped", "()J"⟩, 9), (⟨"ClockCouncil", "howManyUnderWay", "()I"⟩, 9), (⟨"ClockCouncilModel", "isMember", "(I)Z"⟩, 52), (⟨"ClockCouncilModel", "counterOf", "(I)J"⟩, 52), (⟨"ClockCouncilModel", "lowOf", "(I)J"⟩, 52), (⟨"ClockCouncilModel", "atLeast", "(IJ)J"⟩, 52), (⟨"ClockCouncilModel", "highOf", "(I)J"⟩, 52), (⟨"ClockCouncilModel", "atMost", "(IJ)J"⟩, 52), (⟨"ClockCouncilModel", "heardMany", "(I)I"⟩, 52)]
theorem lw_r1 : ∀ q ∈ lw_privs_1, lw_okq q := List.forall_mem_cons.mpr ⟨lw_p0, List.forall_mem_cons.mpr ⟨lw_p1, List.forall_mem_cons.mpr ⟨lw_p2, List.forall_mem_cons.mpr ⟨lw_p3, List.forall_mem_cons.mpr ⟨lw_p4, List.forall_mem_cons.mpr ⟨lw_p5, List.forall_mem_cons.mpr ⟨lw_p6, List.forall_mem_cons.mpr ⟨lw_p7, List.forall_mem_cons.mpr ⟨lw_p8, List.forall_mem_cons.mpr ⟨lw_p9, List.forall_mem_cons.mpr ⟨lw_p10, List.forall_mem_cons.mpr ⟨lw_p11, List.forall_mem_cons.mpr ⟨lw_p12, List.forall_mem_cons.mpr ⟨lw_p13, List.forall_mem_cons.mpr ⟨lw_p14, List.forall_mem_cons.mpr ⟨lw_p15, fun _ h => absurd h List.not_mem_nil⟩⟩⟩⟩⟩⟩⟩⟩⟩⟩⟩⟩⟩⟩⟩⟩
theorem lw_p16 : lw_okq (⟨"ClockCouncilModel", "isUnderWay", "(I)Z"⟩, 52) := ⟨⟨by decide +kernel, by decide +kernel⟩, List.mem_of_getElem? (i := 628) (by decide +kernel), List.mem_of_getElem? (i := 874) (by decide +kernel), List.mem_of_getElem? (i := 875) (by decide +kernel)⟩
theorem lw_p17 : lw_okq (⟨"ClockCouncilModel", "heardLowOf", "(II)J"⟩, 52) := ⟨⟨by decide +kernel, by decide +kernel⟩, List.mem_of_getElem? (i := 628) (by decide +kernel), List.mem_of_getElem? (i := 895) (by decide +kernel), List.mem_of_getElem? (i := 896) (by decide +kernel)⟩
theorem lw_p18 : lw_okq (⟨"ClockCouncilModel", "heardHighOf", "(II)J"⟩, 52) := ⟨⟨by decide +kernel, by decide +kernel⟩, List.mem_of_getElem? (i := 628) (by decide +kernel), List.mem_of_getElem? (i := 899) (by decide +kernel), List.mem_of_getElem? (i := 900) (by decide +kernel)⟩
theorem lw_p19 : lw_okq (⟨"ClockCouncilModel", "gather", "(I)V"⟩, 52) := ⟨⟨by decide +kernel, by decide +kernel⟩, List.mem_of_getElem? (i := 628) (by decide +kernel), List.mem_of_getElem? (i := 907) (by decide +kernel), List.mem_of_getElem? (i := 908) (by decide +kernel)⟩
theorem lw_p20 : lw_okq (⟨"ClockCouncilModel", "votesFor", "(J)I"⟩, 52) := ⟨⟨by decide +kernel, by decide +kernel⟩, List.mem_of_getElem? (i := 628) (by decide +kernel), List.mem_of_getElem? (i := 911) (by decide +kernel), List.mem_of_getElem? (i := 912) (by decide +kernel)⟩
theorem lw_p21 : lw_okq (⟨"ClockCouncilModel", "findCouncil", "(I)Z"⟩, 52) := ⟨⟨by decide +kernel, by decide +kernel⟩, List.mem_of_getElem? (i := 628) (by decide +kernel), List.mem_of_getElem? (i := 919) (by decide +kernel), List.mem_of_getElem? (i := 920) (by decide +kernel)⟩
theorem lw_p22 : lw_okq (⟨"ClockCouncilModel", "isStamp", "(I)Z"⟩, 52) := ⟨⟨by decide +kernel, by decide +kernel⟩, List.mem_of_getElem? (i := 628) (by decide +kernel), List.mem_of_getElem? (i := 939) (by decide +kernel), List.mem_of_getElem? (i := 940) (by decide +kernel)⟩
theorem lw_p23 : lw_okq (⟨"ClockCouncilModel", "isEvent", "(I)Z"⟩, 52) := ⟨⟨by decide +kernel, by decide +kernel⟩, List.mem_of_getElem? (i := 628) (by decide +kernel), List.mem_of_getElem? (i := 960) (by decide +kernel), List.mem_of_getElem? (i := 961) (by decide +kernel)⟩
theorem lw_p24 : lw_okq (⟨"ClockCouncilModel", "findLongest", "()Z"⟩, 52) := ⟨⟨by decide +kernel, by decide +kernel⟩, List.mem_of_getElem? (i := 628) (by decide +kernel), List.mem_of_getElem? (i := 968) (by decide +kernel), List.mem_of_getElem? (i := 969) (by decide +kernel)⟩
theorem lw_p25 : lw_okq (⟨"ClockCouncilModel", "findTimes", "()Z"⟩, 52) := ⟨⟨by decide +kernel, by decide +kernel⟩, List.mem_of_getElem? (i := 628) (by decide +kernel), List.mem_of_getElem? (i := 976) (by decide +kernel), List.mem_of_getElem? (i := 977) (by decide +kernel)⟩
theorem lw_p26 : lw_okq (⟨"ClockCouncilModel", "ringFrom", "(I)I"⟩, 52) := ⟨⟨by decide +kernel, by decide +kernel⟩, List.mem_of_getElem? (i := 628) (by decide +kernel), List.mem_of_getElem? (i := 989) (by decide +kernel), List.mem_of_getElem? (i := 990) (by decide +kernel)⟩
def lw_privs_2 : List (MethodName × Nat) := [(⟨"ClockCouncilModel", "isUnderWay", "(I)Z"⟩, 52), (⟨"ClockCouncilModel", "heardLowOf", "(II)J"⟩, 52), (⟨"ClockCouncilModel", "heardHighOf", "(II)J"⟩, 52), (⟨"ClockCouncilModel", "gather", "(I)V"⟩, 52), (⟨"ClockCouncilModel", "votesFor", "(J)I"⟩, 52), (⟨"ClockCouncilModel", "findCouncil", "(I)Z"⟩, 52), (⟨"ClockCouncilModel", "isStamp", "(I)Z"⟩, 52), (⟨"ClockCouncilModel", "isEvent", "(I)Z"⟩, 52), (⟨"ClockCouncilModel", "findLongest", "()Z"⟩, 52), (⟨"ClockCouncilModel", "findTimes", "()Z"⟩, 52), (⟨"ClockCouncilModel", "ringFrom", "(I)I"⟩, 52)]
theorem lw_r2 : ∀ q ∈ lw_privs_2, lw_okq q := List.forall_mem_cons.mpr ⟨lw_p16, List.forall_mem_cons.mpr ⟨lw_p17, List.forall_mem_cons.mpr ⟨lw_p18, List.forall_mem_cons.mpr ⟨lw_p19, List.forall_mem_cons.mpr ⟨lw_p20, List.forall_mem_cons.mpr ⟨lw_p21, List.forall_mem_cons.mpr ⟨lw_p22, List.forall_mem_cons.mpr ⟨lw_p23, List.forall_mem_cons.mpr ⟨lw_p24, List.forall_mem_cons.mpr ⟨lw_p25, List.forall_mem_cons.mpr ⟨lw_p26, fun _ h => absurd h List.not_mem_nil⟩⟩⟩⟩⟩⟩⟩⟩⟩⟩⟩
def lw_privs : List (MethodName × Nat) := lw_privs_1 ++ (lw_privs_2)
def lw_tbl : List Cond := k2_sels lw_privs ++ tables_1
theorem lw_privs_ok : ∀ q ∈ lw_privs, lw_okq q := by
  show ∀ q ∈ lw_privs_1 ++ (lw_privs_2), lw_okq q
  exact List.forall_mem_append.mpr ⟨lw_r1, lw_r2⟩

theorem goodIn_r {big : List Cond} (ws : List Cond) (ps : List Nat) (hp : ws = ps.filterMap (fun i => big[i]?)) (h : ws.all goodWord = true) : GoodIn big ws := by
  intro w hw
  have h1 := List.all_eq_true.mp h w hw
  rw [hp] at hw
  obtain ⟨i, -, hi⟩ := List.mem_filterMap.mp hw
  have hm : w ∈ big := by first | exact List.mem_of_getElem? hi | exact List.getElem?_mem hi
  exact ⟨hm, good_of_word h1⟩
theorem goodIn_app {big a b : List Cond} (ha : GoodIn big a) (hb : GoodIn big b) : GoodIn big (a ++ b) := fun w h => (List.mem_append.mp h).elim (ha w) (hb w)
theorem goodIn_ca {big a b : List Cond} {c : Cond} (ha : GoodIn big (c :: a)) (hb : GoodIn big b) : GoodIn big (c :: (a ++ b)) := fun w h => (List.mem_cons.mp h).elim (fun e => ha w (List.mem_cons.mpr (Or.inl e))) (fun h => (List.mem_append.mp h).elim (fun h => ha w (List.mem_cons.mpr (Or.inr h))) (hb w))
theorem goodIn_sub {big ws : List Cond} (hm : ∀ w ∈ ws, w ∈ big) (h : ws.all goodWord = true) : GoodIn big ws := fun w hw => ⟨hm w hw, good_of_word (List.all_eq_true.mp h w hw)⟩
def RX0 : String := "ClockCouncil$Gathering"
def TX0 : u_T := fun k => match k with
  | 0 => ("ClockCouncil$Gathering", "who", "[I", true)
  | 1 => ("ClockCouncil$Gathering", "lows", "[J", true)
  | 2 => ("ClockCouncil$Gathering", "highs", "[J", true)
  | _ => ("ClockCouncil$Gathering", "size", "I", false)
def tyX0 : Nat → FieldType := fun k => match k with
  | 0 => .array .int
  | 1 => .array .long
  | 2 => .array .long
  | _ => .int
abbrev wsX00 : List Cond := u_ws RX0 TX0 4
theorem nmX0 : ∀ a, a < 4 → ∀ b, b < 4 → a ≠ b → (TX0 a).2.1 ≠ (TX0 b).2.1 := by decide +kernel
theorem tyX0_ok : ∀ k, k < 4 → parseFieldDescriptor (TX0 k).2.2.1 = some (tyX0 k) := by decide +kernel
abbrev cX0_init : ByteArray := prog_2_method_1_code
def yX0_init : MethodName := ⟨RX0, "<init>", "()V"⟩
abbrev cX0_clear : ByteArray := prog_2_method_2_code
def yX0_clear : MethodName := ⟨RX0, "clear", "()V"⟩
abbrev cX0_add : ByteArray := prog_2_method_3_code
def yX0_add : MethodName := ⟨RX0, "add", "(IJJ)V"⟩
abbrev cX0_having : ByteArray := prog_2_method_4_code
def yX0_having : MethodName := ⟨RX0, "having", "(J)I"⟩
abbrev cX0_least : ByteArray := prog_2_method_5_code
def yX0_least : MethodName := ⟨RX0, "least", "(I)J"⟩
abbrev cX0_greatest : ByteArray := prog_2_method_6_code
def yX0_greatest : MethodName := ⟨RX0, "greatest", "(I)J"⟩
abbrev cX0_pieces : ByteArray := prog_2_method_7_code
def yX0_pieces : MethodName := ⟨RX0, "pieces", "(I)I"⟩
abbrev cX0_beganBefore : ByteArray := prog_2_method_8_code
def yX0_beganBefore : MethodName := ⟨RX0, "beganBefore", "(I)Z"⟩
abbrev cX0_apartFrom : ByteArray := prog_2_method_9_code
def yX0_apartFrom : MethodName := ⟨RX0, "apartFrom", "(JJ)I"⟩
def RX1 : String := "ClockCouncil$Letter"
def TX1 : u_T := fun k => match k with
  | 0 => ("ClockCouncil$Letter", "asker", "LClockCouncil$Member;", true)
  | 1 => ("ClockCouncil$Letter", "asked", "LClockCouncil$Member;", true)
  | 2 => ("ClockCouncil$Letter", "askedAt", "J", true)
  | 3 => ("ClockCouncil$Letter", "state", "I", false)
  | 4 => ("ClockCouncil$Letter", "answered", "Z", false)
  | 5 => ("ClockCouncil$Letter", "low", "J", false)
  | _ => ("ClockCouncil$Letter", "high", "J", false)
def tyX1 : Nat → FieldType := fun k => match k with
  | 0 => .object "ClockCouncil$Member"
  | 1 => .object "ClockCouncil$Member"
  | 2 => .long
  | 3 => .int
  | 4 => .boolean
  | 5 => .long
  | _ => .long
abbrev wsX10 : List Cond := u_ws RX1 TX1 7
theorem nmX1 : ∀ a, a < 7 → ∀ b, b < 7 → a ≠ b → (TX1 a).2.1 ≠ (TX1 b).2.1 := by decide +kernel
theorem tyX1_ok : ∀ k, k < 7 → parseFieldDescriptor (TX1 k).2.2.1 = some (tyX1 k) := by decide +kernel
abbrev cX1_init : ByteArray := prog_3_method_1_code
def yX1_init : MethodName := ⟨RX1, "<init>", "(LClockCouncil$Member;LClockCouncil$Member;J)V"⟩
abbrev cX1_isUnderWay : ByteArray := prog_3_method_2_code
def yX1_isUnderWay : MethodName := ⟨RX1, "isUnderWay", "()Z"⟩
abbrev cX1_takeAnswer : ByteArray := prog_3_method_3_code
def yX1_takeAnswer : MethodName := ⟨RX1, "takeAnswer", "(J)V"⟩
abbrev cX1_bringBack : ByteArray := prog_3_method_4_code
def yX1_bringBack : MethodName := ⟨RX1, "bringBack", "(J)V"⟩
def RX2 : String := "ClockCouncil$Member"
def TX2 : u_T := fun k => match k with
  | 0 => ("ClockCouncil$Member", "number", "I", true)
  | 1 => ("ClockCouncil$Member", "kind", "I", true)
  | 2 => ("ClockCouncil$Member", "drift", "I", true)
  | 3 => ("ClockCouncil$Member", "nearness", "I", true)
  | 4 => ("ClockCouncil$Member", "came", "J", true)
  | 5 => ("ClockCouncil$Member", "up", "I", false)
  | 6 => ("ClockCouncil$Member", "down", "I", false)
  | 7 => ("ClockCouncil$Member", "rests", "Z", false)
  | 8 => ("ClockCouncil$Member", "own", "LClockCouncil$Span;", true)
  | 9 => ("ClockCouncil$Member", "spansHeard", "[LClockCouncil$Span;", true)
  | 10 => ("ClockCouncil$Member", "toldLow", "J", false)
  | 11 => ("ClockCouncil$Member", "toldHigh", "J", false)
  | 12 => ("ClockCouncil$Member", "shown", "J", false)
  | 13 => ("ClockCouncil$Member", "ledAt", "J", false)
  | 14 => ("ClockCouncil$Member", "timesLiar", "I", false)
  | _ => ("ClockCouncil$Member", "timesMet", "I", false)
def tyX2 : Nat → FieldType := fun k => match k with
  | 0 => .int
  | 1 => .int
  | 2 => .int
  | 3 => .int
  | 4 => .long
  | 5 => .int
  | 6 => .int
  | 7 => .boolean
  | 8 => .object "ClockCouncil$Span"
  | 9 => .array (.object "ClockCouncil$Span")
  | 10 => .long
  | 11 => .long
  | 12 => .long
  | 13 => .long
  | 14 => .int
  | _ => .int
abbrev wsX20 : List Cond := u_ws RX2 TX2 16
theorem nmX2 : ∀ a, a < 16 → ∀ b, b < 16 → a ≠ b → (TX2 a).2.1 ≠ (TX2 b).2.1 := by decide +kernel
theorem tyX2_ok : ∀ k, k < 16 → parseFieldDescriptor (TX2 k).2.2.1 = some (tyX2 k) := by decide +kernel
abbrev cX2_init : ByteArray := prog_4_method_1_code
def yX2_init : MethodName := ⟨RX2, "<init>", "(IIIIJ)V"⟩
abbrev cX2_countedAt : ByteArray := prog_4_method_2_code
def yX2_countedAt : MethodName := ⟨RX2, "countedAt", "(J)J"⟩
abbrev cX2_lowAt : ByteArray := prog_4_method_3_code
def yX2_lowAt : MethodName := ⟨RX2, "lowAt", "(J)J"⟩
abbrev cX2_highAt : ByteArray := prog_4_method_4_code
def yX2_highAt : MethodName := ⟨RX2, "highAt", "(J)J"⟩
abbrev cX2_holds : ByteArray := prog_4_method_5_code
def yX2_holds : MethodName := ⟨RX2, "holds", "(J)Z"⟩
abbrev cX2_spanOf : ByteArray := prog_4_method_6_code
def yX2_spanOf : MethodName := ⟨RX2, "spanOf", "(I)LClockCouncil$Span;"⟩
abbrev cX2_hasHeardOf : ByteArray := prog_4_method_7_code
def yX2_hasHeardOf : MethodName := ⟨RX2, "hasHeardOf", "(I)Z"⟩
abbrev cX2_heardLowAt : ByteArray := prog_4_method_8_code
def yX2_heardLowAt : MethodName := ⟨RX2, "heardLowAt", "(IJ)J"⟩
abbrev cX2_heardHighAt : ByteArray := prog_4_method_9_code
def yX2_heardHighAt : MethodName := ⟨RX2, "heardHighAt", "(IJ)J"⟩
abbrev cX2_hear : ByteArray := prog_4_method_10_code
def yX2_hear : MethodName := ⟨RX2, "hear", "(IJJJ)V"⟩
abbrev cX2_howManyHeard : ByteArray := prog_4_method_11_code
def yX2_howManyHeard : MethodName := ⟨RX2, "howManyHeard", "()I"⟩
abbrev cX2_forgetHeard : ByteArray := prog_4_method_12_code
def yX2_forgetHeard : MethodName := ⟨RX2, "forgetHeard", "()V"⟩
def RX3 : String := "ClockCouncil$Sorting"
def TX3 : u_T := fun k => match k with
  | 0 => ("ClockCouncil$Sorting", "lows", "[J", true)
  | 1 => ("ClockCouncil$Sorting", "highs", "[J", true)
  | 2 => ("ClockCouncil$Sorting", "eventCount", "I", false)
  | 3 => ("ClockCouncil$Sorting", "from", "[I", true)
  | 4 => ("ClockCouncil$Sorting", "to", "[I", true)
  | 5 => ("ClockCouncil$Sorting", "linkCount", "I", false)
  | 6 => ("ClockCouncil$Sorting", "after", "[I", true)
  | 7 => ("ClockCouncil$Sorting", "earliest", "[J", true)
  | 8 => ("ClockCouncil$Sorting", "ranked", "[I", true)
  | 9 => ("ClockCouncil$Sorting", "ringed", "[I", true)
  | 10 => ("ClockCouncil$Sorting", "away", "[I", true)
  | 11 => ("ClockCouncil$Sorting", "ringLength", "I", false)
  | 12 => ("ClockCouncil$Sorting", "widening", "J", false)
  | _ => ("ClockCouncil$Sorting", "settled", "Z", false)
def tyX3 : Nat → FieldType := fun k => match k with
  | 0 => .array .long
  | 1 => .array .long
  | 2 => .int
  | 3 => .array .int
  | 4 => .array .int
  | 5 => .int
  | 6 => .array .int
  | 7 => .array .long
  | 8 => .array .int
  | 9 => .array .int
  | 10 => .array .int
  | 11 => .int
  | 12 => .long
  | _ => .boolean
abbrev wsX30 : List Cond := u_ws RX3 TX3 14
theorem nmX3 : ∀ a, a < 14 → ∀ b, b < 14 → a ≠ b → (TX3 a).2.1 ≠ (TX3 b).2.1 := by decide +kernel
theorem tyX3_ok : ∀ k, k < 14 → parseFieldDescriptor (TX3 k).2.2.1 = some (tyX3 k) := by decide +kernel
abbrev cX3_init : ByteArray := prog_5_method_1_code
def yX3_init : MethodName := ⟨RX3, "<init>", "()V"⟩
abbrev cX3_hasEvent : ByteArray := prog_5_method_2_code
def yX3_hasEvent : MethodName := ⟨RX3, "hasEvent", "(I)Z"⟩
abbrev cX3_addEvent : ByteArray := prog_5_method_3_code
def yX3_addEvent : MethodName := ⟨RX3, "addEvent", "(JJ)J"⟩
abbrev cX3_addLink : ByteArray := prog_5_method_4_code
def yX3_addLink : MethodName := ⟨RX3, "addLink", "(II)J"⟩
abbrev cX3_settle : ByteArray := prog_5_method_5_code
def yX3_settle : MethodName := ⟨RX3, "settle", "()V"⟩
abbrev cX3_findEarliest : ByteArray := prog_5_method_6_code
def yX3_findEarliest : MethodName := ⟨RX3, "findEarliest", "()Z"⟩
abbrev cX3_raiseOnce : ByteArray := prog_5_method_7_code
def yX3_raiseOnce : MethodName := ⟨RX3, "raiseOnce", "()Z"⟩
abbrev cX3_findWidening : ByteArray := prog_5_method_8_code
def yX3_findWidening : MethodName := ⟨RX3, "findWidening", "()V"⟩
abbrev cX3_rank : ByteArray := prog_5_method_9_code
def yX3_rank : MethodName := ⟨RX3, "rank", "()V"⟩
abbrev cX3_findRing : ByteArray := prog_5_method_10_code
def yX3_findRing : MethodName := ⟨RX3, "findRing", "()V"⟩
abbrev cX3_measureTo : ByteArray := prog_5_method_11_code
def yX3_measureTo : MethodName := ⟨RX3, "measureTo", "(I)V"⟩
abbrev cX3_nearestAfter : ByteArray := prog_5_method_12_code
def yX3_nearestAfter : MethodName := ⟨RX3, "nearestAfter", "(I)I"⟩
def RX4 : String := "ClockCouncil$Span"
def TX4 : u_T := fun k => match k with
  | 0 => ("ClockCouncil$Span", "known", "Z", false)
  | 1 => ("ClockCouncil$Span", "low", "J", false)
  | 2 => ("ClockCouncil$Span", "high", "J", false)
  | _ => ("ClockCouncil$Span", "asOf", "J", false)
def tyX4 : Nat → FieldType := fun k => match k with
  | 0 => .boolean
  | 1 => .long
  | 2 => .long
  | _ => .long
abbrev wsX40 : List Cond := u_ws RX4 TX4 4
theorem nmX4 : ∀ a, a < 4 → ∀ b, b < 4 → a ≠ b → (TX4 a).2.1 ≠ (TX4 b).2.1 := by decide +kernel
theorem tyX4_ok : ∀ k, k < 4 → parseFieldDescriptor (TX4 k).2.2.1 = some (tyX4 k) := by decide +kernel
abbrev cX4_init : ByteArray := prog_6_method_1_code
def yX4_init : MethodName := ⟨RX4, "<init>", "()V"⟩
abbrev cX4_put : ByteArray := prog_6_method_2_code
def yX4_put : MethodName := ⟨RX4, "put", "(JJJ)V"⟩
abbrev cX4_lowWhen : ByteArray := prog_6_method_3_code
def yX4_lowWhen : MethodName := ⟨RX4, "lowWhen", "(JI)J"⟩
abbrev cX4_highWhen : ByteArray := prog_6_method_4_code
def yX4_highWhen : MethodName := ⟨RX4, "highWhen", "(JI)J"⟩
def RX5 : String := "ClockCouncil$Stamp"
def TX5 : u_T := fun k => match k with
  | 0 => ("ClockCouncil$Stamp", "low", "J", true)
  | 1 => ("ClockCouncil$Stamp", "high", "J", true)
  | 2 => ("ClockCouncil$Stamp", "giver", "I", true)
  | _ => ("ClockCouncil$Stamp", "right", "Z", true)
def tyX5 : Nat → FieldType := fun k => match k with
  | 0 => .long
  | 1 => .long
  | 2 => .int
  | _ => .boolean
abbrev wsX50 : List Cond := u_ws RX5 TX5 4
theorem nmX5 : ∀ a, a < 4 → ∀ b, b < 4 → a ≠ b → (TX5 a).2.1 ≠ (TX5 b).2.1 := by decide +kernel
theorem tyX5_ok : ∀ k, k < 4 → parseFieldDescriptor (TX5 k).2.2.1 = some (tyX5 k) := by decide +kernel
abbrev cX5_init : ByteArray := prog_7_method_1_code
def yX5_init : MethodName := ⟨RX5, "<init>", "(JJIZ)V"⟩
def RX6 : String := "ClockCouncil"
def TX6 : u_T := fun k => match k with
  | 0 => ("ClockCouncil", "trueTime", "J", false)
  | 1 => ("ClockCouncil", "members", "[LClockCouncil$Member;", true)
  | 2 => ("ClockCouncil", "memberCount", "I", false)
  | 3 => ("ClockCouncil", "letters", "[LClockCouncil$Letter;", true)
  | 4 => ("ClockCouncil", "letterCount", "I", false)
  | 5 => ("ClockCouncil", "stamps", "[LClockCouncil$Stamp;", true)
  | 6 => ("ClockCouncil", "stampCount", "I", false)
  | 7 => ("ClockCouncil", "gathering", "LClockCouncil$Gathering;", true)
  | _ => ("ClockCouncil", "sorting", "LClockCouncil$Sorting;", true)
def tyX6 : Nat → FieldType := fun k => match k with
  | 0 => .long
  | 1 => .array (.object "ClockCouncil$Member")
  | 2 => .int
  | 3 => .array (.object "ClockCouncil$Letter")
  | 4 => .int
  | 5 => .array (.object "ClockCouncil$Stamp")
  | 6 => .int
  | 7 => .object "ClockCouncil$Gathering"
  | _ => .object "ClockCouncil$Sorting"
abbrev wsX60 : List Cond := u_ws RX6 TX6 9
theorem nmX6 : ∀ a, a < 9 → ∀ b, b < 9 → a ≠ b → (TX6 a).2.1 ≠ (TX6 b).2.1 := by decide +kernel
theorem tyX6_ok : ∀ k, k < 9 → parseFieldDescriptor (TX6 k).2.2.1 = some (tyX6 k) := by decide +kernel
abbrev cX6_init : ByteArray := prog_1_method_1_code
def yX6_init : MethodName := ⟨RX6, "<init>", "()V"⟩
abbrev cX6_go : ByteArray := prog_1_method_2_code
def yX6_go : MethodName := ⟨RX6, "go", "(I)J"⟩
abbrev cX6_member : ByteArray := prog_1_method_3_code
def yX6_member : MethodName := ⟨RX6, "member", "(III)J"⟩
abbrev cX6_rate : ByteArray := prog_1_method_4_code
def yX6_rate : MethodName := ⟨RX6, "rate", "(III)J"⟩
abbrev cX6_lie : ByteArray := prog_1_method_5_code
def yX6_lie : MethodName := ⟨RX6, "lie", "(IJJ)J"⟩
abbrev cX6_rest : ByteArray := prog_1_method_6_code
def yX6_rest : MethodName := ⟨RX6, "rest", "(IZ)J"⟩
abbrev cX6_counter : ByteArray := prog_1_method_7_code
def yX6_counter : MethodName := ⟨RX6, "counter", "(I)J"⟩
abbrev cX6_of : ByteArray := prog_1_method_8_code
def yX6_of : MethodName := ⟨RX6, "of", "(II)J"⟩
abbrev cX6_ask : ByteArray := prog_1_method_9_code
def yX6_ask : MethodName := ⟨RX6, "ask", "(II)J"⟩
abbrev cX6_deliver : ByteArray := prog_1_method_10_code
def yX6_deliver : MethodName := ⟨RX6, "deliver", "(I)J"⟩
abbrev cX6_lose : ByteArray := prog_1_method_11_code
def yX6_lose : MethodName := ⟨RX6, "lose", "(I)J"⟩
abbrev cX6_twice : ByteArray := prog_1_method_12_code
def yX6_twice : MethodName := ⟨RX6, "twice", "(I)J"⟩
abbrev cX6_letter : ByteArray := prog_1_method_13_code
def yX6_letter : MethodName := ⟨RX6, "letter", "(II)J"⟩
abbrev cX6_heard : ByteArray := prog_1_method_14_code
def yX6_heard : MethodName := ⟨RX6, "heard", "(III)J"⟩
abbrev cX6_votes : ByteArray := prog_1_method_15_code
def yX6_votes : MethodName := ⟨RX6, "votes", "(IJ)J"⟩
abbrev cX6_council : ByteArray := prog_1_method_16_code
def yX6_council : MethodName := ⟨RX6, "council", "(III)J"⟩
abbrev cX6_meet : ByteArray := prog_1_method_17_code
def yX6_meet : MethodName := ⟨RX6, "meet", "(II)J"⟩
abbrev cX6_lead : ByteArray := prog_1_method_18_code
def yX6_lead : MethodName := ⟨RX6, "lead", "(II)J"⟩
abbrev cX6_stamp : ByteArray := prog_1_method_19_code
def yX6_stamp : MethodName := ⟨RX6, "stamp", "(I)J"⟩
abbrev cX6_given : ByteArray := prog_1_method_20_code
def yX6_given : MethodName := ⟨RX6, "given", "(II)J"⟩
abbrev cX6_ahead : ByteArray := prog_1_method_21_code
def yX6_ahead : MethodName := ⟨RX6, "ahead", "(II)J"⟩
abbrev cX6_wait : ByteArray := prog_1_method_22_code
def yX6_wait : MethodName := ⟨RX6, "wait", "(I)J"⟩
abbrev cX6_event : ByteArray := prog_1_method_23_code
def yX6_event : MethodName := ⟨RX6, "event", "(I)J"⟩
abbrev cX6_link : ByteArray := prog_1_method_24_code
def yX6_link : MethodName := ⟨RX6, "link", "(II)J"⟩
abbrev cX6_mend : ByteArray := prog_1_method_25_code
def yX6_mend : MethodName := ⟨RX6, "mend", "()J"⟩
abbrev cX6_order : ByteArray := prog_1_method_26_code
def yX6_order : MethodName := ⟨RX6, "order", "(I)J"⟩
abbrev cX6_time : ByteArray := prog_1_method_27_code
def yX6_time : MethodName := ⟨RX6, "time", "(I)J"⟩
abbrev cX6_ring : ByteArray := prog_1_method_28_code
def yX6_ring : MethodName := ⟨RX6, "ring", "(I)J"⟩
abbrev cX6_count : ByteArray := prog_1_method_29_code
def yX6_count : MethodName := ⟨RX6, "count", "(I)J"⟩
abbrev cX6_findMember : ByteArray := prog_1_method_30_code
def yX6_findMember : MethodName := ⟨RX6, "findMember", "(I)LClockCouncil$Member;"⟩
abbrev cX6_findLetter : ByteArray := prog_1_method_31_code
def yX6_findLetter : MethodName := ⟨RX6, "findLetter", "(I)LClockCouncil$Letter;"⟩
abbrev cX6_findUnderWay : ByteArray := prog_1_method_32_code
def yX6_findUnderWay : MethodName := ⟨RX6, "findUnderWay", "(I)LClockCouncil$Letter;"⟩
abbrev cX6_findStamp : ByteArray := prog_1_method_33_code
def yX6_findStamp : MethodName := ⟨RX6, "findStamp", "(I)LClockCouncil$Stamp;"⟩
abbrev cX6_addLetter : ByteArray := prog_1_method_34_code
def yX6_addLetter : MethodName := ⟨RX6, "addLetter", "(LClockCouncil$Letter;)J"⟩
abbrev cX6_howManyUnderWay : ByteArray := prog_1_method_35_code
def yX6_howManyUnderWay : MethodName := ⟨RX6, "howManyUnderWay", "()I"⟩
abbrev cX6_gather : ByteArray := prog_1_method_36_code
def yX6_gather : MethodName := ⟨RX6, "gather", "(LClockCouncil$Member;)V"⟩
abbrev cX6_noteMeeting : ByteArray := prog_1_method_37_code
def yX6_noteMeeting : MethodName := ⟨RX6, "noteMeeting", "(I)V"⟩
abbrev cX6_latestStamped : ByteArray := prog_1_method_38_code
def yX6_latestStamped : MethodName := ⟨RX6, "latestStamped", "()J"⟩
abbrev cX6_asBit : ByteArray := prog_1_method_39_code
def yX6_asBit : MethodName := ⟨RX6, "asBit", "(Z)J"⟩
abbrev cX6_floorOf : ByteArray := prog_1_method_40_code
def yX6_floorOf : MethodName := ⟨RX6, "floorOf", "(JJ)J"⟩
abbrev cX6_ceilOf : ByteArray := prog_1_method_41_code
def yX6_ceilOf : MethodName := ⟨RX6, "ceilOf", "(JJ)J"⟩
abbrev cX6_atLeast : ByteArray := prog_1_method_42_code
def yX6_atLeast : MethodName := ⟨RX6, "atLeast", "(JI)J"⟩
abbrev cX6_atMost : ByteArray := prog_1_method_43_code
def yX6_atMost : MethodName := ⟨RX6, "atMost", "(JI)J"⟩
abbrev cX6_countFor : ByteArray := prog_1_method_44_code
def yX6_countFor : MethodName := ⟨RX6, "countFor", "(JI)J"⟩
def RX7 : String := "ClockCouncilModel"
def TX7 : u_T := fun k => match k with
  | 0 => ("ClockCouncilModel", "now", "J", false)
  | 1 => ("ClockCouncilModel", "members", "I", false)
  | 2 => ("ClockCouncilModel", "kinds", "[I", true)
  | 3 => ("ClockCouncilModel", "drifts", "[J", true)
  | 4 => ("ClockCouncilModel", "nears", "[J", true)
  | 5 => ("ClockCouncilModel", "born", "[J", true)
  | 6 => ("ClockCouncilModel", "ups", "[J", true)
  | 7 => ("ClockCouncilModel", "downs", "[J", true)
  | 8 => ("ClockCouncilModel", "lows", "[J", true)
  | 9 => ("ClockCouncilModel", "highs", "[J", true)
  | 10 => ("ClockCouncilModel", "since", "[J", true)
  | 11 => ("ClockCouncilModel", "lieLows", "[J", true)
  | 12 => ("ClockCouncilModel", "lieHighs", "[J", true)
  | 13 => ("ClockCouncilModel", "rests", "[Z", true)
  | 14 => ("ClockCouncilModel", "shown", "[J", true)
  | 15 => ("ClockCouncilModel", "led", "[J", true)
  | 16 => ("ClockCouncilModel", "liars", "[I", true)
  | 17 => ("ClockCouncilModel", "met", "[I", true)
  | 18 => ("ClockCouncilModel", "hasHeard", "[Z", true)
  | 19 => ("ClockCouncilModel", "heardLow", "[J", true)
  | 20 => ("ClockCouncilModel", "heardHigh", "[J", true)
  | 21 => ("ClockCouncilModel", "heardAt", "[J", true)
  | 22 => ("ClockCouncilModel", "letters", "I", false)
  | 23 => ("ClockCouncilModel", "from", "[I", true)
  | 24 => ("ClockCouncilModel", "to", "[I", true)
  | 25 => ("ClockCouncilModel", "states", "[I", true)
  | 26 => ("ClockCouncilModel", "askedAt", "[J", true)
  | 27 => ("ClockCouncilModel", "hasAnswer", "[Z", true)
  | 28 => ("ClockCouncilModel", "answerLow", "[J", true)
  | 29 => ("ClockCouncilModel", "answerHigh", "[J", true)
  | 30 => ("ClockCouncilModel", "stamps", "I", false)
  | 31 => ("ClockCouncilModel", "stampLow", "[J", true)
  | 32 => ("ClockCouncilModel", "stampHigh", "[J", true)
  | 33 => ("ClockCouncilModel", "stampOf", "[I", true)
  | 34 => ("ClockCouncilModel", "stampRight", "[Z", true)
  | 35 => ("ClockCouncilModel", "events", "I", false)
  | 36 => ("ClockCouncilModel", "eventLow", "[J", true)
  | 37 => ("ClockCouncilModel", "eventHigh", "[J", true)
  | 38 => ("ClockCouncilModel", "links", "I", false)
  | 39 => ("ClockCouncilModel", "isLink", "[Z", true)
  | 40 => ("ClockCouncilModel", "spans", "I", false)
  | 41 => ("ClockCouncilModel", "spanOf", "[I", true)
  | 42 => ("ClockCouncilModel", "spanLow", "[J", true)
  | 43 => ("ClockCouncilModel", "spanHigh", "[J", true)
  | 44 => ("ClockCouncilModel", "points", "[J", true)
  | 45 => ("ClockCouncilModel", "pieces", "I", false)
  | 46 => ("ClockCouncilModel", "councilLow", "J", false)
  | 47 => ("ClockCouncilModel", "councilHigh", "J", false)
  | 48 => ("ClockCouncilModel", "councilLiars", "J", false)
  | 49 => ("ClockCouncilModel", "longest", "[I", true)
  | 50 => ("ClockCouncilModel", "times", "[J", true)
  | _ => ("ClockCouncilModel", "steps", "[I", true)
def tyX7 : Nat → FieldType := fun k => match k with
  | 0 => .long
  | 1 => .int
  | 2 => .array .int
  | 3 => .array .long
  | 4 => .array .long
  | 5 => .array .long
  | 6 => .array .long
  | 7 => .array .long
  | 8 => .array .long
  | 9 => .array .long
  | 10 => .array .long
  | 11 => .array .long
  | 12 => .array .long
  | 13 => .array .boolean
  | 14 => .array .long
  | 15 => .array .long
  | 16 => .array .int
  | 17 => .array .int
  | 18 => .array .boolean
  | 19 => .array .long
  | 20 => .array .long
  | 21 => .array .long
  | 22 => .int
  | 23 => .array .int
  | 24 => .array .int
  | 25 => .array .int
  | 26 => .array .long
  | 27 => .array .boolean
  | 28 => .array .long
  | 29 => .array .long
  | 30 => .int
  | 31 => .array .long
  | 32 => .array .long
  | 33 => .array .int
  | 34 => .array .boolean
  | 35 => .int
  | 36 => .array .long
  | 37 => .array .long
  | 38 => .int
  | 39 => .array .boolean
  | 40 => .int
  | 41 => .array .int
  | 42 => .array .long
  | 43 => .array .long
  | 44 => .array .long
  | 45 => .int
  | 46 => .long
  | 47 => .long
  | 48 => .long
  | 49 => .array .int
  | 50 => .array .long
  | _ => .array .int
abbrev wsX70 : List Cond := u_ws RX7 TX7 52
theorem nmX7 : ∀ a, a < 52 → ∀ b, b < 52 → a ≠ b → (TX7 a).2.1 ≠ (TX7 b).2.1 := by decide +kernel
theorem tyX7_ok : ∀ k, k < 52 → parseFieldDescriptor (TX7 k).2.2.1 = some (tyX7 k) := by decide +kernel
abbrev cX7_init : ByteArray := prog_9_method_1_code
def yX7_init : MethodName := ⟨RX7, "<init>", "()V"⟩
abbrev cX7_floor : ByteArray := prog_9_method_2_code
def yX7_floor : MethodName := ⟨RX7, "floor", "(JJ)J"⟩
abbrev cX7_ceil : ByteArray := prog_9_method_3_code
def yX7_ceil : MethodName := ⟨RX7, "ceil", "(JJ)J"⟩
abbrev cX7_in : ByteArray := prog_9_method_4_code
def yX7_in : MethodName := ⟨RX7, "in", "(JJJ)Z"⟩
abbrev cX7_isMember : ByteArray := prog_9_method_5_code
def yX7_isMember : MethodName := ⟨RX7, "isMember", "(I)Z"⟩
abbrev cX7_go : ByteArray := prog_9_method_6_code
def yX7_go : MethodName := ⟨RX7, "go", "(I)J"⟩
abbrev cX7_member : ByteArray := prog_9_method_7_code
def yX7_member : MethodName := ⟨RX7, "member", "(III)J"⟩
abbrev cX7_rate : ByteArray := prog_9_method_8_code
def yX7_rate : MethodName := ⟨RX7, "rate", "(III)J"⟩
abbrev cX7_lie : ByteArray := prog_9_method_9_code
def yX7_lie : MethodName := ⟨RX7, "lie", "(IJJ)J"⟩
abbrev cX7_rest : ByteArray := prog_9_method_10_code
def yX7_rest : MethodName := ⟨RX7, "rest", "(IZ)J"⟩
abbrev cX7_counterOf : ByteArray := prog_9_method_11_code
def yX7_counterOf : MethodName := ⟨RX7, "counterOf", "(I)J"⟩
abbrev cX7_counter : ByteArray := prog_9_method_12_code
def yX7_counter : MethodName := ⟨RX7, "counter", "(I)J"⟩
abbrev cX7_atLeast : ByteArray := prog_9_method_13_code
def yX7_atLeast : MethodName := ⟨RX7, "atLeast", "(IJ)J"⟩
abbrev cX7_atMost : ByteArray := prog_9_method_14_code
def yX7_atMost : MethodName := ⟨RX7, "atMost", "(IJ)J"⟩
abbrev cX7_lowOf : ByteArray := prog_9_method_15_code
def yX7_lowOf : MethodName := ⟨RX7, "lowOf", "(I)J"⟩
abbrev cX7_highOf : ByteArray := prog_9_method_16_code
def yX7_highOf : MethodName := ⟨RX7, "highOf", "(I)J"⟩
abbrev cX7_heardLowOf : ByteArray := prog_9_method_17_code
def yX7_heardLowOf : MethodName := ⟨RX7, "heardLowOf", "(II)J"⟩
abbrev cX7_heardHighOf : ByteArray := prog_9_method_18_code
def yX7_heardHighOf : MethodName := ⟨RX7, "heardHighOf", "(II)J"⟩
abbrev cX7_heardMany : ByteArray := prog_9_method_19_code
def yX7_heardMany : MethodName := ⟨RX7, "heardMany", "(I)I"⟩
abbrev cX7_of : ByteArray := prog_9_method_20_code
def yX7_of : MethodName := ⟨RX7, "of", "(II)J"⟩
abbrev cX7_ask : ByteArray := prog_9_method_21_code
def yX7_ask : MethodName := ⟨RX7, "ask", "(II)J"⟩
abbrev cX7_isUnderWay : ByteArray := prog_9_method_22_code
def yX7_isUnderWay : MethodName := ⟨RX7, "isUnderWay", "(I)Z"⟩
abbrev cX7_deliver : ByteArray := prog_9_method_23_code
def yX7_deliver : MethodName := ⟨RX7, "deliver", "(I)J"⟩
abbrev cX7_lose : ByteArray := prog_9_method_24_code
def yX7_lose : MethodName := ⟨RX7, "lose", "(I)J"⟩
abbrev cX7_twice : ByteArray := prog_9_method_25_code
def yX7_twice : MethodName := ⟨RX7, "twice", "(I)J"⟩
abbrev cX7_letter : ByteArray := prog_9_method_26_code
def yX7_letter : MethodName := ⟨RX7, "letter", "(II)J"⟩
abbrev cX7_heard : ByteArray := prog_9_method_27_code
def yX7_heard : MethodName := ⟨RX7, "heard", "(III)J"⟩
abbrev cX7_gather : ByteArray := prog_9_method_28_code
def yX7_gather : MethodName := ⟨RX7, "gather", "(I)V"⟩
abbrev cX7_votesFor : ByteArray := prog_9_method_29_code
def yX7_votesFor : MethodName := ⟨RX7, "votesFor", "(J)I"⟩
abbrev cX7_votes : ByteArray := prog_9_method_30_code
def yX7_votes : MethodName := ⟨RX7, "votes", "(IJ)J"⟩
abbrev cX7_findCouncil : ByteArray := prog_9_method_31_code
def yX7_findCouncil : MethodName := ⟨RX7, "findCouncil", "(I)Z"⟩
abbrev cX7_council : ByteArray := prog_9_method_32_code
def yX7_council : MethodName := ⟨RX7, "council", "(III)J"⟩
abbrev cX7_meet : ByteArray := prog_9_method_33_code
def yX7_meet : MethodName := ⟨RX7, "meet", "(II)J"⟩
abbrev cX7_lead : ByteArray := prog_9_method_34_code
def yX7_lead : MethodName := ⟨RX7, "lead", "(II)J"⟩
abbrev cX7_stamp : ByteArray := prog_9_method_35_code
def yX7_stamp : MethodName := ⟨RX7, "stamp", "(I)J"⟩
abbrev cX7_isStamp : ByteArray := prog_9_method_36_code
def yX7_isStamp : MethodName := ⟨RX7, "isStamp", "(I)Z"⟩
abbrev cX7_given : ByteArray := prog_9_method_37_code
def yX7_given : MethodName := ⟨RX7, "given", "(II)J"⟩
abbrev cX7_ahead : ByteArray := prog_9_method_38_code
def yX7_ahead : MethodName := ⟨RX7, "ahead", "(II)J"⟩
abbrev cX7_wait : ByteArray := prog_9_method_39_code
def yX7_wait : MethodName := ⟨RX7, "wait", "(I)J"⟩
abbrev cX7_event : ByteArray := prog_9_method_40_code
def yX7_event : MethodName := ⟨RX7, "event", "(I)J"⟩
abbrev cX7_isEvent : ByteArray := prog_9_method_41_code
def yX7_isEvent : MethodName := ⟨RX7, "isEvent", "(I)Z"⟩
abbrev cX7_link : ByteArray := prog_9_method_42_code
def yX7_link : MethodName := ⟨RX7, "link", "(II)J"⟩
abbrev cX7_findLongest : ByteArray := prog_9_method_43_code
def yX7_findLongest : MethodName := ⟨RX7, "findLongest", "()Z"⟩
abbrev cX7_mend : ByteArray := prog_9_method_44_code
def yX7_mend : MethodName := ⟨RX7, "mend", "()J"⟩
abbrev cX7_findTimes : ByteArray := prog_9_method_45_code
def yX7_findTimes : MethodName := ⟨RX7, "findTimes", "()Z"⟩
abbrev cX7_order : ByteArray := prog_9_method_46_code
def yX7_order : MethodName := ⟨RX7, "order", "(I)J"⟩
abbrev cX7_time : ByteArray := prog_9_method_47_code
def yX7_time : MethodName := ⟨RX7, "time", "(I)J"⟩
abbrev cX7_ringFrom : ByteArray := prog_9_method_48_code
def yX7_ringFrom : MethodName := ⟨RX7, "ringFrom", "(I)I"⟩
abbrev cX7_ring : ByteArray := prog_9_method_49_code
def yX7_ring : MethodName := ⟨RX7, "ring", "(I)J"⟩
abbrev cX7_count : ByteArray := prog_9_method_50_code
def yX7_count : MethodName := ⟨RX7, "count", "(I)J"⟩
def RJ9 : String := "java/lang/Math"
def TJ9 : u_T := fun k => match k with
  | _ => ("", "", "", false)
def tyJ9 : Nat → FieldType := fun k => match k with
  | _ => .int
abbrev wsJ90 : List Cond := u_ws RJ9 TJ9 0
theorem nmJ9 : ∀ a, a < 0 → ∀ b, b < 0 → a ≠ b → (TJ9 a).2.1 ≠ (TJ9 b).2.1 := by decide +kernel
theorem tyJ9_ok : ∀ k, k < 0 → parseFieldDescriptor (TJ9 k).2.2.1 = some (tyJ9 k) := by decide +kernel
abbrev cJ9_floorDiv_f86c9 : ByteArray := prog_10_method_49_code
def yJ9_floorDiv_f86c9 : MethodName := ⟨RJ9, "floorDiv", "(JJ)J"⟩
abbrev cJ9_abs_067f4 : ByteArray := prog_10_method_61_code
def yJ9_abs_067f4 : MethodName := ⟨RJ9, "abs", "(J)J"⟩
abbrev cJ9_max_f86c9 : ByteArray := prog_10_method_66_code
def yJ9_max_f86c9 : MethodName := ⟨RJ9, "max", "(JJ)J"⟩
abbrev cJ9_min_f86c9 : ByteArray := prog_10_method_70_code
def yJ9_min_f86c9 : MethodName := ⟨RJ9, "min", "(JJ)J"⟩
def RL : String := "ClockCouncilLaw"
abbrev cL_law : ByteArray := code
def yL_law : MethodName := ⟨RL, "law", "([I)Z"⟩
def wsJ9_floorDiv_f86c9 : List Cond := .code yJ9_floorDiv_f86c9 cJ9_floorDiv_f86c9 6 (some .long) :: ([])
def wsJ9_abs_067f4 : List Cond := .code yJ9_abs_067f4 cJ9_abs_067f4 2 (some .long) :: ([])
def wsJ9_max_f86c9 : List Cond := .code yJ9_max_f86c9 cJ9_max_f86c9 4 (some .long) :: ([])
def wsJ9_min_f86c9 : List Cond := .code yJ9_min_f86c9 cJ9_min_f86c9 4 (some .long) :: ([])
theorem inJ9 : ∀ w ∈ wsJ90, w ∈ lw_tbl := by decide +kernel
abbrev vwCl : List vw_C := [(RX0, TX0, 4), (RX1, TX1, 7), (RX2, TX2, 16), (RX3, TX3, 14), (RX4, TX4, 4), (RX5, TX5, 4), (RX6, TX6, 9), (RX7, TX7, 52)]
