def mX0_init : MD := (RX0, cX0_init, 1, none, "<init>", { frames := 1, cells := 3, slots := 30, locals := 40 }, fun _ => True)
theorem iX0_init : isM yX0_init mX0_init 0 := ⟨rfl, rfl, by decide +kernel, by decide +kernel, by decide +kernel, by decide +kernel, List.mem_of_getElem? (i := 55) (by decide +kernel), List.mem_of_getElem? (i := 29) (by decide +kernel)⟩
def mX0_clear : MD := (RX0, cX0_clear, 1, none, "clear", { frames := 0, cells := 0, slots := 0, locals := 0 }, fun _ => True)
theorem iX0_clear : isM yX0_clear mX0_clear 0 := ⟨rfl, rfl, by decide +kernel, by decide +kernel, by decide +kernel, by decide +kernel, List.mem_of_getElem? (i := 464) (by decide +kernel), List.mem_of_getElem? (i := 29) (by decide +kernel)⟩
def mX0_add : MD := (RX0, cX0_add, 6, none, "add", { frames := 0, cells := 0, slots := 0, locals := 0 }, fun _ => True)
theorem iX0_add : isM yX0_add mX0_add 3 := ⟨rfl, rfl, by decide +kernel, by decide +kernel, by decide +kernel, by decide +kernel, List.mem_of_getElem? (i := 468) (by decide +kernel), List.mem_of_getElem? (i := 29) (by decide +kernel)⟩
def mX0_having : MD := (RX0, cX0_having, 5, some .int, "having", { frames := 0, cells := 0, slots := 0, locals := 0 }, fun _ => True)
theorem iX0_having : isM yX0_having mX0_having 1 := ⟨rfl, rfl, by decide +kernel, by decide +kernel, by decide +kernel, by decide +kernel, List.mem_of_getElem? (i := 472) (by decide +kernel), List.mem_of_getElem? (i := 29) (by decide +kernel)⟩
def mX0_least : MD := (RX0, cX0_least, 5, some .long, "least", { frames := 1, cells := 0, slots := 0, locals := 24 }, fun _ => True)
theorem iX0_least : isM yX0_least mX0_least 1 := ⟨rfl, rfl, by decide +kernel, by decide +kernel, by decide +kernel, by decide +kernel, List.mem_of_getElem? (i := 489) (by decide +kernel), List.mem_of_getElem? (i := 29) (by decide +kernel)⟩
def mX0_greatest : MD := (RX0, cX0_greatest, 5, some .long, "greatest", { frames := 1, cells := 0, slots := 0, locals := 24 }, fun _ => True)
theorem iX0_greatest : isM yX0_greatest mX0_greatest 1 := ⟨rfl, rfl, by decide +kernel, by decide +kernel, by decide +kernel, by decide +kernel, List.mem_of_getElem? (i := 494) (by decide +kernel), List.mem_of_getElem? (i := 29) (by decide +kernel)⟩
def mX0_beganBefore : MD := (RX0, cX0_beganBefore, 3, some .boolean, "beganBefore", { frames := 0, cells := 0, slots := 0, locals := 0 }, fun _ => True)
theorem iX0_beganBefore : isM yX0_beganBefore mX0_beganBefore 1 := ⟨rfl, rfl, by decide +kernel, by decide +kernel, by decide +kernel, by decide +kernel, List.mem_of_getElem? (i := 485) (by decide +kernel), List.mem_of_getElem? (i := 29) (by decide +kernel)⟩
def mX0_pieces : MD := (RX0, cX0_pieces, 5, some .int, "pieces", { frames := 1, cells := 0, slots := 0, locals := 24 }, fun _ => True)
theorem iX0_pieces : isM yX0_pieces mX0_pieces 1 := ⟨rfl, rfl, by decide +kernel, by decide +kernel, by decide +kernel, by decide +kernel, List.mem_of_getElem? (i := 480) (by decide +kernel), List.mem_of_getElem? (i := 29) (by decide +kernel)⟩
def mX0_apartFrom : MD := (RX0, cX0_apartFrom, 7, some .int, "apartFrom", { frames := 0, cells := 0, slots := 0, locals := 0 }, fun _ => True)
theorem iX0_apartFrom : isM yX0_apartFrom mX0_apartFrom 2 := ⟨rfl, rfl, by decide +kernel, by decide +kernel, by decide +kernel, by decide +kernel, List.mem_of_getElem? (i := 498) (by decide +kernel), List.mem_of_getElem? (i := 29) (by decide +kernel)⟩
def mX1_init : MD := (RX1, cX1_init, 5, none, "<init>", { frames := 1, cells := 0, slots := 0, locals := 40 }, fun _ => True)
theorem iX1_init : isM yX1_init mX1_init 3 := ⟨rfl, rfl, by decide +kernel, by decide +kernel, by decide +kernel, by decide +kernel, List.mem_of_getElem? (i := 359) (by decide +kernel), List.mem_of_getElem? (i := 35) (by decide +kernel)⟩
def mX1_isUnderWay : MD := (RX1, cX1_isUnderWay, 1, some .boolean, "isUnderWay", { frames := 0, cells := 0, slots := 0, locals := 0 }, fun _ => True)
theorem iX1_isUnderWay : isM yX1_isUnderWay mX1_isUnderWay 0 := ⟨rfl, rfl, by decide +kernel, by decide +kernel, by decide +kernel, by decide +kernel, List.mem_of_getElem? (i := 409) (by decide +kernel), List.mem_of_getElem? (i := 35) (by decide +kernel)⟩
def mJ9_floorDiv_f86c9 : MD := (RJ9, cJ9_floorDiv_f86c9, 6, some .long, "floorDiv", { frames := 0, cells := 0, slots := 0, locals := 0 }, fun _ => True)
theorem iJ9_floorDiv_f86c9 : isM yJ9_floorDiv_f86c9 mJ9_floorDiv_f86c9 2 := ⟨rfl, rfl, by decide +kernel, by decide +kernel, by decide +kernel, by decide +kernel, List.mem_of_getElem? (i := 302) (by decide +kernel), List.mem_of_getElem? (i := 34) (by decide +kernel)⟩
def mX6_floorOf : MD := (RX6, cX6_floorOf, 4, some .long, "floorOf", { frames := 1, cells := 0, slots := 0, locals := 25 }, fun _ => True)
theorem iX6_floorOf : isM yX6_floorOf mX6_floorOf 2 := ⟨rfl, rfl, by decide +kernel, by decide +kernel, by decide +kernel, by decide +kernel, List.mem_of_getElem? (i := 299) (by decide +kernel), List.mem_of_getElem? (i := 28) (by decide +kernel)⟩
def mX2_countedAt : MD := (RX2, cX2_countedAt, 3, some .long, "countedAt", { frames := 2, cells := 0, slots := 0, locals := 48 }, fun _ => True)
theorem iX2_countedAt : isM yX2_countedAt mX2_countedAt 1 := ⟨rfl, rfl, by decide +kernel, by decide +kernel, by decide +kernel, by decide +kernel, List.mem_of_getElem? (i := 296) (by decide +kernel), List.mem_of_getElem? (i := 32) (by decide +kernel)⟩
def mX6_atLeast : MD := (RX6, cX6_atLeast, 3, some .long, "atLeast", { frames := 2, cells := 0, slots := 0, locals := 48 }, fun _ => True)
theorem iX6_atLeast : isM yX6_atLeast mX6_atLeast 2 := ⟨rfl, rfl, by decide +kernel, by decide +kernel, by decide +kernel, by decide +kernel, List.mem_of_getElem? (i := 318) (by decide +kernel), List.mem_of_getElem? (i := 28) (by decide +kernel)⟩
def mX4_lowWhen : MD := (RX4, cX4_lowWhen, 4, some .long, "lowWhen", { frames := 3, cells := 0, slots := 0, locals := 70 }, fun _ => True)
theorem iX4_lowWhen : isM yX4_lowWhen mX4_lowWhen 2 := ⟨rfl, rfl, by decide +kernel, by decide +kernel, by decide +kernel, by decide +kernel, List.mem_of_getElem? (i := 315) (by decide +kernel), List.mem_of_getElem? (i := 33) (by decide +kernel)⟩
def mX2_lowAt : MD := (RX2, cX2_lowAt, 3, some .long, "lowAt", { frames := 4, cells := 0, slots := 0, locals := 93 }, fun _ => True)
theorem iX2_lowAt : isM yX2_lowAt mX2_lowAt 1 := ⟨rfl, rfl, by decide +kernel, by decide +kernel, by decide +kernel, by decide +kernel, List.mem_of_getElem? (i := 310) (by decide +kernel), List.mem_of_getElem? (i := 32) (by decide +kernel)⟩
def mX6_ceilOf : MD := (RX6, cX6_ceilOf, 4, some .long, "ceilOf", { frames := 1, cells := 0, slots := 0, locals := 25 }, fun _ => True)
theorem iX6_ceilOf : isM yX6_ceilOf mX6_ceilOf 2 := ⟨rfl, rfl, by decide +kernel, by decide +kernel, by decide +kernel, by decide +kernel, List.mem_of_getElem? (i := 333) (by decide +kernel), List.mem_of_getElem? (i := 28) (by decide +kernel)⟩
def mX6_atMost : MD := (RX6, cX6_atMost, 3, some .long, "atMost", { frames := 2, cells := 0, slots := 0, locals := 48 }, fun _ => True)
theorem iX6_atMost : isM yX6_atMost mX6_atMost 2 := ⟨rfl, rfl, by decide +kernel, by decide +kernel, by decide +kernel, by decide +kernel, List.mem_of_getElem? (i := 330) (by decide +kernel), List.mem_of_getElem? (i := 28) (by decide +kernel)⟩
def mX4_highWhen : MD := (RX4, cX4_highWhen, 4, some .long, "highWhen", { frames := 3, cells := 0, slots := 0, locals := 70 }, fun _ => True)
theorem iX4_highWhen : isM yX4_highWhen mX4_highWhen 2 := ⟨rfl, rfl, by decide +kernel, by decide +kernel, by decide +kernel, by decide +kernel, List.mem_of_getElem? (i := 327) (by decide +kernel), List.mem_of_getElem? (i := 33) (by decide +kernel)⟩
def mX2_highAt : MD := (RX2, cX2_highAt, 3, some .long, "highAt", { frames := 4, cells := 0, slots := 0, locals := 93 }, fun _ => True)
theorem iX2_highAt : isM yX2_highAt mX2_highAt 1 := ⟨rfl, rfl, by decide +kernel, by decide +kernel, by decide +kernel, by decide +kernel, List.mem_of_getElem? (i := 323) (by decide +kernel), List.mem_of_getElem? (i := 32) (by decide +kernel)⟩
def mX1_takeAnswer : MD := (RX1, cX1_takeAnswer, 4, none, "takeAnswer", { frames := 5, cells := 0, slots := 0, locals := 115 }, fun _ => True)
theorem iX1_takeAnswer : isM yX1_takeAnswer mX1_takeAnswer 1 := ⟨rfl, rfl, by decide +kernel, by decide +kernel, by decide +kernel, by decide +kernel, List.mem_of_getElem? (i := 413) (by decide +kernel), List.mem_of_getElem? (i := 35) (by decide +kernel)⟩
def mX4_init : MD := (RX4, cX4_init, 1, none, "<init>", { frames := 1, cells := 0, slots := 0, locals := 40 }, fun _ => True)
theorem iX4_init : isM yX4_init mX4_init 0 := ⟨rfl, rfl, by decide +kernel, by decide +kernel, by decide +kernel, by decide +kernel, List.mem_of_getElem? (i := 179) (by decide +kernel), List.mem_of_getElem? (i := 33) (by decide +kernel)⟩
def mX4_put : MD := (RX4, cX4_put, 7, none, "put", { frames := 0, cells := 0, slots := 0, locals := 0 }, fun _ => True)
theorem iX4_put : isM yX4_put mX4_put 3 := ⟨rfl, rfl, by decide +kernel, by decide +kernel, by decide +kernel, by decide +kernel, List.mem_of_getElem? (i := 200) (by decide +kernel), List.mem_of_getElem? (i := 33) (by decide +kernel)⟩
def mX2_hear : MD := (RX2, cX2_hear, 8, none, "hear", { frames := 2, cells := 1, slots := 4, locals := 60 }, fun _ => True)
theorem iX2_hear : isM yX2_hear mX2_hear 4 := ⟨rfl, rfl, by decide +kernel, by decide +kernel, by decide +kernel, by decide +kernel, List.mem_of_getElem? (i := 425) (by decide +kernel), List.mem_of_getElem? (i := 32) (by decide +kernel)⟩
def mX1_bringBack : MD := (RX1, cX1_bringBack, 5, none, "bringBack", { frames := 3, cells := 1, slots := 4, locals := 87 }, fun _ => True)
theorem iX1_bringBack : isM yX1_bringBack mX1_bringBack 1 := ⟨rfl, rfl, by decide +kernel, by decide +kernel, by decide +kernel, by decide +kernel, List.mem_of_getElem? (i := 419) (by decide +kernel), List.mem_of_getElem? (i := 35) (by decide +kernel)⟩
def mX2_init : MD := (RX2, cX2_init, 7, none, "<init>", { frames := 2, cells := 2, slots := 14, locals := 60 }, fun _ => True)
theorem iX2_init : isM yX2_init mX2_init 5 := ⟨rfl, rfl, by decide +kernel, by decide +kernel, by decide +kernel, by decide +kernel, List.mem_of_getElem? (i := 173) (by decide +kernel), List.mem_of_getElem? (i := 32) (by decide +kernel)⟩
def mX2_holds : MD := (RX2, cX2_holds, 3, some .boolean, "holds", { frames := 5, cells := 0, slots := 0, locals := 115 }, fun _ => True)
theorem iX2_holds : isM yX2_holds mX2_holds 1 := ⟨rfl, rfl, by decide +kernel, by decide +kernel, by decide +kernel, by decide +kernel, List.mem_of_getElem? (i := 337) (by decide +kernel), List.mem_of_getElem? (i := 32) (by decide +kernel)⟩
def mX2_spanOf : MD := (RX2, cX2_spanOf, 3, some (.object "ClockCouncil$Span"), "spanOf", { frames := 0, cells := 0, slots := 0, locals := 0 }, fun _ => True)
theorem iX2_spanOf : isM yX2_spanOf mX2_spanOf 1 := ⟨rfl, rfl, by decide +kernel, by decide +kernel, by decide +kernel, by decide +kernel, List.mem_of_getElem? (i := 351) (by decide +kernel), List.mem_of_getElem? (i := 32) (by decide +kernel)⟩
def mX2_hasHeardOf : MD := (RX2, cX2_hasHeardOf, 2, some .boolean, "hasHeardOf", { frames := 1, cells := 0, slots := 0, locals := 22 }, fun _ => True)
theorem iX2_hasHeardOf : isM yX2_hasHeardOf mX2_hasHeardOf 1 := ⟨rfl, rfl, by decide +kernel, by decide +kernel, by decide +kernel, by decide +kernel, List.mem_of_getElem? (i := 347) (by decide +kernel), List.mem_of_getElem? (i := 32) (by decide +kernel)⟩
def mX2_heardLowAt : MD := (RX2, cX2_heardLowAt, 5, some .long, "heardLowAt", { frames := 4, cells := 0, slots := 0, locals := 93 }, fun _ => True)
theorem iX2_heardLowAt : isM yX2_heardLowAt mX2_heardLowAt 2 := ⟨rfl, rfl, by decide +kernel, by decide +kernel, by decide +kernel, by decide +kernel, List.mem_of_getElem? (i := 447) (by decide +kernel), List.mem_of_getElem? (i := 32) (by decide +kernel)⟩
def mX2_heardHighAt : MD := (RX2, cX2_heardHighAt, 5, some .long, "heardHighAt", { frames := 4, cells := 0, slots := 0, locals := 93 }, fun _ => True)
theorem iX2_heardHighAt : isM yX2_heardHighAt mX2_heardHighAt 2 := ⟨rfl, rfl, by decide +kernel, by decide +kernel, by decide +kernel, by decide +kernel, List.mem_of_getElem? (i := 452) (by decide +kernel), List.mem_of_getElem? (i := 32) (by decide +kernel)⟩
def mX2_howManyHeard : MD := (RX2, cX2_howManyHeard, 3, some .int, "howManyHeard", { frames := 2, cells := 0, slots := 0, locals := 43 }, fun _ => True)
theorem iX2_howManyHeard : isM yX2_howManyHeard mX2_howManyHeard 0 := ⟨rfl, rfl, by decide +kernel, by decide +kernel, by decide +kernel, by decide +kernel, List.mem_of_getElem? (i := 343) (by decide +kernel), List.mem_of_getElem? (i := 32) (by decide +kernel)⟩
def mX2_forgetHeard : MD := (RX2, cX2_forgetHeard, 2, none, "forgetHeard", { frames := 0, cells := 0, slots := 0, locals := 0 }, fun _ => True)
theorem iX2_forgetHeard : isM yX2_forgetHeard mX2_forgetHeard 0 := ⟨rfl, rfl, by decide +kernel, by decide +kernel, by decide +kernel, by decide +kernel, List.mem_of_getElem? (i := 510) (by decide +kernel), List.mem_of_getElem? (i := 32) (by decide +kernel)⟩
def mX3_init : MD := (RX3, cX3_init, 1, none, "<init>", { frames := 1, cells := 9, slots := 330, locals := 40 }, fun _ => True)
theorem iX3_init : isM yX3_init mX3_init 0 := ⟨rfl, rfl, by decide +kernel, by decide +kernel, by decide +kernel, by decide +kernel, List.mem_of_getElem? (i := 78) (by decide +kernel), List.mem_of_getElem? (i := 30) (by decide +kernel)⟩
def mX3_hasEvent : MD := (RX3, cX3_hasEvent, 2, some .boolean, "hasEvent", { frames := 0, cells := 0, slots := 0, locals := 0 }, fun _ => True)
theorem iX3_hasEvent : isM yX3_hasEvent mX3_hasEvent 1 := ⟨rfl, rfl, by decide +kernel, by decide +kernel, by decide +kernel, by decide +kernel, List.mem_of_getElem? (i := 588) (by decide +kernel), List.mem_of_getElem? (i := 30) (by decide +kernel)⟩
def mX3_addEvent : MD := (RX3, cX3_addEvent, 5, some .long, "addEvent", { frames := 0, cells := 0, slots := 0, locals := 0 }, fun _ => True)
theorem iX3_addEvent : isM yX3_addEvent mX3_addEvent 2 := ⟨rfl, rfl, by decide +kernel, by decide +kernel, by decide +kernel, by decide +kernel, List.mem_of_getElem? (i := 579) (by decide +kernel), List.mem_of_getElem? (i := 30) (by decide +kernel)⟩
def mX3_addLink : MD := (RX3, cX3_addLink, 3, some .long, "addLink", { frames := 1, cells := 0, slots := 0, locals := 21 }, fun _ => True)
theorem iX3_addLink : isM yX3_addLink mX3_addLink 2 := ⟨rfl, rfl, by decide +kernel, by decide +kernel, by decide +kernel, by decide +kernel, List.mem_of_getElem? (i := 592) (by decide +kernel), List.mem_of_getElem? (i := 30) (by decide +kernel)⟩
def mX3_raiseOnce : MD := (RX3, cX3_raiseOnce, 3, some .boolean, "raiseOnce", { frames := 0, cells := 0, slots := 0, locals := 0 }, fun _ => True)
theorem iX3_raiseOnce : isM yX3_raiseOnce mX3_raiseOnce 0 := ⟨rfl, rfl, by decide +kernel, by decide +kernel, by decide +kernel, by decide +kernel, List.mem_of_getElem? (i := 609) (by decide +kernel), List.mem_of_getElem? (i := 30) (by decide +kernel)⟩
def mX3_findEarliest : MD := (RX3, cX3_findEarliest, 3, some .boolean, "findEarliest", { frames := 1, cells := 0, slots := 0, locals := 22 }, fun _ => True)
theorem iX3_findEarliest : isM yX3_findEarliest mX3_findEarliest 0 := ⟨rfl, rfl, by decide +kernel, by decide +kernel, by decide +kernel, by decide +kernel, List.mem_of_getElem? (i := 605) (by decide +kernel), List.mem_of_getElem? (i := 30) (by decide +kernel)⟩
def mX3_measureTo : MD := (RX3, cX3_measureTo, 6, none, "measureTo", { frames := 0, cells := 0, slots := 0, locals := 0 }, fun _ => True)
theorem iX3_measureTo : isM yX3_measureTo mX3_measureTo 1 := ⟨rfl, rfl, by decide +kernel, by decide +kernel, by decide +kernel, by decide +kernel, List.mem_of_getElem? (i := 618) (by decide +kernel), List.mem_of_getElem? (i := 30) (by decide +kernel)⟩
def mX3_nearestAfter : MD := (RX3, cX3_nearestAfter, 5, some .int, "nearestAfter", { frames := 0, cells := 0, slots := 0, locals := 0 }, fun _ => True)
theorem iX3_nearestAfter : isM yX3_nearestAfter mX3_nearestAfter 1 := ⟨rfl, rfl, by decide +kernel, by decide +kernel, by decide +kernel, by decide +kernel, List.mem_of_getElem? (i := 622) (by decide +kernel), List.mem_of_getElem? (i := 30) (by decide +kernel)⟩
def mX3_findRing : MD := (RX3, cX3_findRing, 4, none, "findRing", { frames := 1, cells := 0, slots := 0, locals := 25 }, fun _ => True)
theorem iX3_findRing : isM yX3_findRing mX3_findRing 0 := ⟨rfl, rfl, by decide +kernel, by decide +kernel, by decide +kernel, by decide +kernel, List.mem_of_getElem? (i := 614) (by decide +kernel), List.mem_of_getElem? (i := 30) (by decide +kernel)⟩
def mJ9_max_f86c9 : MD := (RJ9, cJ9_max_f86c9, 4, some .long, "max", { frames := 0, cells := 0, slots := 0, locals := 0 }, fun _ => True)
theorem iJ9_max_f86c9 : isM yJ9_max_f86c9 mJ9_max_f86c9 2 := ⟨rfl, rfl, by decide +kernel, by decide +kernel, by decide +kernel, by decide +kernel, List.mem_of_getElem? (i := 518) (by decide +kernel), List.mem_of_getElem? (i := 34) (by decide +kernel)⟩
def mX3_findWidening : MD := (RX3, cX3_findWidening, 2, none, "findWidening", { frames := 2, cells := 0, slots := 0, locals := 48 }, fun _ => True)
theorem iX3_findWidening : isM yX3_findWidening mX3_findWidening 0 := ⟨rfl, rfl, by decide +kernel, by decide +kernel, by decide +kernel, by decide +kernel, List.mem_of_getElem? (i := 626) (by decide +kernel), List.mem_of_getElem? (i := 30) (by decide +kernel)⟩
def mX3_rank : MD := (RX3, cX3_rank, 3, none, "rank", { frames := 0, cells := 0, slots := 0, locals := 0 }, fun _ => True)
theorem iX3_rank : isM yX3_rank mX3_rank 0 := ⟨rfl, rfl, by decide +kernel, by decide +kernel, by decide +kernel, by decide +kernel, List.mem_of_getElem? (i := 633) (by decide +kernel), List.mem_of_getElem? (i := 30) (by decide +kernel)⟩
def mX3_settle : MD := (RX3, cX3_settle, 1, none, "settle", { frames := 3, cells := 0, slots := 0, locals := 69 }, fun _ => True)
theorem iX3_settle : isM yX3_settle mX3_settle 0 := ⟨rfl, rfl, by decide +kernel, by decide +kernel, by decide +kernel, by decide +kernel, List.mem_of_getElem? (i := 601) (by decide +kernel), List.mem_of_getElem? (i := 30) (by decide +kernel)⟩
def mX5_init : MD := (RX5, cX5_init, 7, none, "<init>", { frames := 1, cells := 0, slots := 0, locals := 40 }, fun _ => True)
theorem iX5_init : isM yX5_init mX5_init 4 := ⟨rfl, rfl, by decide +kernel, by decide +kernel, by decide +kernel, by decide +kernel, List.mem_of_getElem? (i := 529) (by decide +kernel), List.mem_of_getElem? (i := 36) (by decide +kernel)⟩
def mX6_init : MD := (RX6, cX6_init, 1, none, "<init>", { frames := 2, cells := 17, slots := 688, locals := 60 }, fun _ => True)
theorem iX6_init : isM yX6_init mX6_init 0 := ⟨rfl, rfl, by decide +kernel, by decide +kernel, by decide +kernel, by decide +kernel, List.mem_of_getElem? (i := 41) (by decide +kernel), List.mem_of_getElem? (i := 28) (by decide +kernel)⟩
def mX6_go : MD := (RX6, cX6_go, 2, some .long, "go", { frames := 0, cells := 0, slots := 0, locals := 0 }, fun _ => True)
theorem iX6_go : isM yX6_go mX6_go 1 := ⟨rfl, rfl, by decide +kernel, by decide +kernel, by decide +kernel, by decide +kernel, List.mem_of_getElem? (i := 161) (by decide +kernel), List.mem_of_getElem? (i := 28) (by decide +kernel)⟩
def mX6_member : MD := (RX6, cX6_member, 4, some .long, "member", { frames := 3, cells := 3, slots := 30, locals := 86 }, fun _ => True)
theorem iX6_member : isM yX6_member mX6_member 3 := ⟨rfl, rfl, by decide +kernel, by decide +kernel, by decide +kernel, by decide +kernel, List.mem_of_getElem? (i := 168) (by decide +kernel), List.mem_of_getElem? (i := 28) (by decide +kernel)⟩
def mX6_findMember : MD := (RX6, cX6_findMember, 2, some (.object "ClockCouncil$Member"), "findMember", { frames := 0, cells := 0, slots := 0, locals := 0 }, fun _ => True)
theorem iX6_findMember : isM yX6_findMember mX6_findMember 1 := ⟨rfl, rfl, by decide +kernel, by decide +kernel, by decide +kernel, by decide +kernel, List.mem_of_getElem? (i := 271) (by decide +kernel), List.mem_of_getElem? (i := 28) (by decide +kernel)⟩
def mJ9_abs_067f4 : MD := (RJ9, cJ9_abs_067f4, 2, some .long, "abs", { frames := 0, cells := 0, slots := 0, locals := 0 }, fun _ => True)
theorem iJ9_abs_067f4 : isM yJ9_abs_067f4 mJ9_abs_067f4 1 := ⟨rfl, rfl, by decide +kernel, by decide +kernel, by decide +kernel, by decide +kernel, List.mem_of_getElem? (i := 274) (by decide +kernel), List.mem_of_getElem? (i := 34) (by decide +kernel)⟩
def mX6_asBit : MD := (RX6, cX6_asBit, 1, some .long, "asBit", { frames := 0, cells := 0, slots := 0, locals := 0 }, fun _ => True)
theorem iX6_asBit : isM yX6_asBit mX6_asBit 1 := ⟨rfl, rfl, by decide +kernel, by decide +kernel, by decide +kernel, by decide +kernel, List.mem_of_getElem? (i := 278) (by decide +kernel), List.mem_of_getElem? (i := 28) (by decide +kernel)⟩
def mX6_rate : MD := (RX6, cX6_rate, 7, some .long, "rate", { frames := 1, cells := 0, slots := 0, locals := 21 }, fun _ => True)
theorem iX6_rate : isM yX6_rate mX6_rate 3 := ⟨rfl, rfl, by decide +kernel, by decide +kernel, by decide +kernel, by decide +kernel, List.mem_of_getElem? (i := 267) (by decide +kernel), List.mem_of_getElem? (i := 28) (by decide +kernel)⟩
def mX6_lie : MD := (RX6, cX6_lie, 7, some .long, "lie", { frames := 1, cells := 0, slots := 0, locals := 21 }, fun _ => True)
theorem iX6_lie : isM yX6_lie mX6_lie 3 := ⟨rfl, rfl, by decide +kernel, by decide +kernel, by decide +kernel, by decide +kernel, List.mem_of_getElem? (i := 282) (by decide +kernel), List.mem_of_getElem? (i := 28) (by decide +kernel)⟩
def mX6_rest : MD := (RX6, cX6_rest, 5, some .long, "rest", { frames := 1, cells := 0, slots := 0, locals := 21 }, fun _ => True)
theorem iX6_rest : isM yX6_rest mX6_rest 2 := ⟨rfl, rfl, by decide +kernel, by decide +kernel, by decide +kernel, by decide +kernel, List.mem_of_getElem? (i := 288) (by decide +kernel), List.mem_of_getElem? (i := 28) (by decide +kernel)⟩
def mX6_counter : MD := (RX6, cX6_counter, 3, some .long, "counter", { frames := 3, cells := 0, slots := 0, locals := 70 }, fun _ => True)
theorem iX6_counter : isM yX6_counter mX6_counter 1 := ⟨rfl, rfl, by decide +kernel, by decide +kernel, by decide +kernel, by decide +kernel, List.mem_of_getElem? (i := 292) (by decide +kernel), List.mem_of_getElem? (i := 28) (by decide +kernel)⟩
def mX6_of : MD := (RX6, cX6_of, 4, some .long, "of", { frames := 6, cells := 0, slots := 0, locals := 137 }, fun _ => True)
theorem iX6_of : isM yX6_of mX6_of 2 := ⟨rfl, rfl, by decide +kernel, by decide +kernel, by decide +kernel, by decide +kernel, List.mem_of_getElem? (i := 306) (by decide +kernel), List.mem_of_getElem? (i := 28) (by decide +kernel)⟩
def mX6_addLetter : MD := (RX6, cX6_addLetter, 2, some .long, "addLetter", { frames := 0, cells := 0, slots := 0, locals := 0 }, fun _ => True)
theorem iX6_addLetter : isM yX6_addLetter mX6_addLetter 1 := ⟨rfl, rfl, by decide +kernel, by decide +kernel, by decide +kernel, by decide +kernel, List.mem_of_getElem? (i := 393) (by decide +kernel), List.mem_of_getElem? (i := 28) (by decide +kernel)⟩
def mX6_ask : MD := (RX6, cX6_ask, 5, some .long, "ask", { frames := 3, cells := 1, slots := 7, locals := 70 }, fun _ => True)
theorem iX6_ask : isM yX6_ask mX6_ask 2 := ⟨rfl, rfl, by decide +kernel, by decide +kernel, by decide +kernel, by decide +kernel, List.mem_of_getElem? (i := 355) (by decide +kernel), List.mem_of_getElem? (i := 28) (by decide +kernel)⟩
def mX6_findLetter : MD := (RX6, cX6_findLetter, 2, some (.object "ClockCouncil$Letter"), "findLetter", { frames := 0, cells := 0, slots := 0, locals := 0 }, fun _ => True)
theorem iX6_findLetter : isM yX6_findLetter mX6_findLetter 1 := ⟨rfl, rfl, by decide +kernel, by decide +kernel, by decide +kernel, by decide +kernel, List.mem_of_getElem? (i := 405) (by decide +kernel), List.mem_of_getElem? (i := 28) (by decide +kernel)⟩
def mX6_findUnderWay : MD := (RX6, cX6_findUnderWay, 3, some (.object "ClockCouncil$Letter"), "findUnderWay", { frames := 1, cells := 0, slots := 0, locals := 21 }, fun _ => True)
theorem iX6_findUnderWay : isM yX6_findUnderWay mX6_findUnderWay 1 := ⟨rfl, rfl, by decide +kernel, by decide +kernel, by decide +kernel, by decide +kernel, List.mem_of_getElem? (i := 401) (by decide +kernel), List.mem_of_getElem? (i := 28) (by decide +kernel)⟩
def mX6_deliver : MD := (RX6, cX6_deliver, 4, some .long, "deliver", { frames := 6, cells := 1, slots := 4, locals := 138 }, fun _ => True)
theorem iX6_deliver : isM yX6_deliver mX6_deliver 1 := ⟨rfl, rfl, by decide +kernel, by decide +kernel, by decide +kernel, by decide +kernel, List.mem_of_getElem? (i := 397) (by decide +kernel), List.mem_of_getElem? (i := 28) (by decide +kernel)⟩
def mX6_lose : MD := (RX6, cX6_lose, 3, some .long, "lose", { frames := 2, cells := 0, slots := 0, locals := 43 }, fun _ => True)
theorem iX6_lose : isM yX6_lose mX6_lose 1 := ⟨rfl, rfl, by decide +kernel, by decide +kernel, by decide +kernel, by decide +kernel, List.mem_of_getElem? (i := 430) (by decide +kernel), List.mem_of_getElem? (i := 28) (by decide +kernel)⟩
def mX6_twice : MD := (RX6, cX6_twice, 4, some .long, "twice", { frames := 2, cells := 1, slots := 7, locals := 64 }, fun _ => True)
theorem iX6_twice : isM yX6_twice mX6_twice 1 := ⟨rfl, rfl, by decide +kernel, by decide +kernel, by decide +kernel, by decide +kernel, List.mem_of_getElem? (i := 434) (by decide +kernel), List.mem_of_getElem? (i := 28) (by decide +kernel)⟩
def mX6_letter : MD := (RX6, cX6_letter, 4, some .long, "letter", { frames := 1, cells := 0, slots := 0, locals := 21 }, fun _ => True)
theorem iX6_letter : isM yX6_letter mX6_letter 2 := ⟨rfl, rfl, by decide +kernel, by decide +kernel, by decide +kernel, by decide +kernel, List.mem_of_getElem? (i := 438) (by decide +kernel), List.mem_of_getElem? (i := 28) (by decide +kernel)⟩
def mX6_heard : MD := (RX6, cX6_heard, 5, some .long, "heard", { frames := 5, cells := 0, slots := 0, locals := 117 }, fun _ => True)
theorem iX6_heard : isM yX6_heard mX6_heard 3 := ⟨rfl, rfl, by decide +kernel, by decide +kernel, by decide +kernel, by decide +kernel, List.mem_of_getElem? (i := 442) (by decide +kernel), List.mem_of_getElem? (i := 28) (by decide +kernel)⟩
def mX6_gather : MD := (RX6, cX6_gather, 3, none, "gather", { frames := 5, cells := 0, slots := 0, locals := 117 }, fun _ => True)
theorem iX6_gather : isM yX6_gather mX6_gather 1 := ⟨rfl, rfl, by decide +kernel, by decide +kernel, by decide +kernel, by decide +kernel, List.mem_of_getElem? (i := 460) (by decide +kernel), List.mem_of_getElem? (i := 28) (by decide +kernel)⟩
def mX6_votes : MD := (RX6, cX6_votes, 5, some .long, "votes", { frames := 6, cells := 0, slots := 0, locals := 139 }, fun _ => True)
theorem iX6_votes : isM yX6_votes mX6_votes 2 := ⟨rfl, rfl, by decide +kernel, by decide +kernel, by decide +kernel, by decide +kernel, List.mem_of_getElem? (i := 456) (by decide +kernel), List.mem_of_getElem? (i := 28) (by decide +kernel)⟩
def mX6_council : MD := (RX6, cX6_council, 10, some .long, "council", { frames := 6, cells := 0, slots := 0, locals := 139 }, fun _ => True)
theorem iX6_council : isM yX6_council mX6_council 3 := ⟨rfl, rfl, by decide +kernel, by decide +kernel, by decide +kernel, by decide +kernel, List.mem_of_getElem? (i := 476) (by decide +kernel), List.mem_of_getElem? (i := 28) (by decide +kernel)⟩
def mX6_noteMeeting : MD := (RX6, cX6_noteMeeting, 4, none, "noteMeeting", { frames := 1, cells := 0, slots := 0, locals := 21 }, fun _ => True)
theorem iX6_noteMeeting : isM yX6_noteMeeting mX6_noteMeeting 1 := ⟨rfl, rfl, by decide +kernel, by decide +kernel, by decide +kernel, by decide +kernel, List.mem_of_getElem? (i := 506) (by decide +kernel), List.mem_of_getElem? (i := 28) (by decide +kernel)⟩
def mX6_meet : MD := (RX6, cX6_meet, 9, some .long, "meet", { frames := 6, cells := 0, slots := 0, locals := 139 }, fun _ => True)
theorem iX6_meet : isM yX6_meet mX6_meet 2 := ⟨rfl, rfl, by decide +kernel, by decide +kernel, by decide +kernel, by decide +kernel, List.mem_of_getElem? (i := 502) (by decide +kernel), List.mem_of_getElem? (i := 28) (by decide +kernel)⟩
def mJ9_min_f86c9 : MD := (RJ9, cJ9_min_f86c9, 4, some .long, "min", { frames := 0, cells := 0, slots := 0, locals := 0 }, fun _ => True)
theorem iJ9_min_f86c9 : isM yJ9_min_f86c9 mJ9_min_f86c9 2 := ⟨rfl, rfl, by decide +kernel, by decide +kernel, by decide +kernel, by decide +kernel, List.mem_of_getElem? (i := 521) (by decide +kernel), List.mem_of_getElem? (i := 34) (by decide +kernel)⟩
def mX6_lead : MD := (RX6, cX6_lead, 14, some .long, "lead", { frames := 5, cells := 0, slots := 0, locals := 115 }, fun _ => True)
theorem iX6_lead : isM yX6_lead mX6_lead 2 := ⟨rfl, rfl, by decide +kernel, by decide +kernel, by decide +kernel, by decide +kernel, List.mem_of_getElem? (i := 515) (by decide +kernel), List.mem_of_getElem? (i := 28) (by decide +kernel)⟩
def mX6_stamp : MD := (RX6, cX6_stamp, 3, some .long, "stamp", { frames := 6, cells := 1, slots := 4, locals := 145 }, fun _ => True)
theorem iX6_stamp : isM yX6_stamp mX6_stamp 1 := ⟨rfl, rfl, by decide +kernel, by decide +kernel, by decide +kernel, by decide +kernel, List.mem_of_getElem? (i := 525) (by decide +kernel), List.mem_of_getElem? (i := 28) (by decide +kernel)⟩
def mX6_findStamp : MD := (RX6, cX6_findStamp, 2, some (.object "ClockCouncil$Stamp"), "findStamp", { frames := 0, cells := 0, slots := 0, locals := 0 }, fun _ => True)
theorem iX6_findStamp : isM yX6_findStamp mX6_findStamp 1 := ⟨rfl, rfl, by decide +kernel, by decide +kernel, by decide +kernel, by decide +kernel, List.mem_of_getElem? (i := 555) (by decide +kernel), List.mem_of_getElem? (i := 28) (by decide +kernel)⟩
def mX6_given : MD := (RX6, cX6_given, 4, some .long, "given", { frames := 1, cells := 0, slots := 0, locals := 21 }, fun _ => True)
theorem iX6_given : isM yX6_given mX6_given 2 := ⟨rfl, rfl, by decide +kernel, by decide +kernel, by decide +kernel, by decide +kernel, List.mem_of_getElem? (i := 551) (by decide +kernel), List.mem_of_getElem? (i := 28) (by decide +kernel)⟩
def mX6_ahead : MD := (RX6, cX6_ahead, 5, some .long, "ahead", { frames := 1, cells := 0, slots := 0, locals := 21 }, fun _ => True)
theorem iX6_ahead : isM yX6_ahead mX6_ahead 2 := ⟨rfl, rfl, by decide +kernel, by decide +kernel, by decide +kernel, by decide +kernel, List.mem_of_getElem? (i := 559) (by decide +kernel), List.mem_of_getElem? (i := 28) (by decide +kernel)⟩
def mX6_latestStamped : MD := (RX6, cX6_latestStamped, 5, some .long, "latestStamped", { frames := 1, cells := 0, slots := 0, locals := 23 }, fun _ => True)
theorem iX6_latestStamped : isM yX6_latestStamped mX6_latestStamped 0 := ⟨rfl, rfl, by decide +kernel, by decide +kernel, by decide +kernel, by decide +kernel, List.mem_of_getElem? (i := 568) (by decide +kernel), List.mem_of_getElem? (i := 28) (by decide +kernel)⟩
def mX6_countFor : MD := (RX6, cX6_countFor, 3, some .long, "countFor", { frames := 2, cells := 0, slots := 0, locals := 48 }, fun _ => True)
theorem iX6_countFor : isM yX6_countFor mX6_countFor 2 := ⟨rfl, rfl, by decide +kernel, by decide +kernel, by decide +kernel, by decide +kernel, List.mem_of_getElem? (i := 571) (by decide +kernel), List.mem_of_getElem? (i := 28) (by decide +kernel)⟩
def mX6_wait : MD := (RX6, cX6_wait, 7, some .long, "wait", { frames := 5, cells := 0, slots := 0, locals := 115 }, fun _ => True)
theorem iX6_wait : isM yX6_wait mX6_wait 1 := ⟨rfl, rfl, by decide +kernel, by decide +kernel, by decide +kernel, by decide +kernel, List.mem_of_getElem? (i := 564) (by decide +kernel), List.mem_of_getElem? (i := 28) (by decide +kernel)⟩
def mX6_event : MD := (RX6, cX6_event, 3, some .long, "event", { frames := 1, cells := 0, slots := 0, locals := 24 }, fun _ => True)
theorem iX6_event : isM yX6_event mX6_event 1 := ⟨rfl, rfl, by decide +kernel, by decide +kernel, by decide +kernel, by decide +kernel, List.mem_of_getElem? (i := 575) (by decide +kernel), List.mem_of_getElem? (i := 28) (by decide +kernel)⟩
def mX6_link : MD := (RX6, cX6_link, 3, some .long, "link", { frames := 2, cells := 0, slots := 0, locals := 43 }, fun _ => True)
theorem iX6_link : isM yX6_link mX6_link 2 := ⟨rfl, rfl, by decide +kernel, by decide +kernel, by decide +kernel, by decide +kernel, List.mem_of_getElem? (i := 584) (by decide +kernel), List.mem_of_getElem? (i := 28) (by decide +kernel)⟩
def mX6_mend : MD := (RX6, cX6_mend, 1, some .long, "mend", { frames := 4, cells := 0, slots := 0, locals := 89 }, fun _ => True)
theorem iX6_mend : isM yX6_mend mX6_mend 0 := ⟨rfl, rfl, by decide +kernel, by decide +kernel, by decide +kernel, by decide +kernel, List.mem_of_getElem? (i := 597) (by decide +kernel), List.mem_of_getElem? (i := 28) (by decide +kernel)⟩
def mX6_order : MD := (RX6, cX6_order, 2, some .long, "order", { frames := 4, cells := 0, slots := 0, locals := 89 }, fun _ => True)
theorem iX6_order : isM yX6_order mX6_order 1 := ⟨rfl, rfl, by decide +kernel, by decide +kernel, by decide +kernel, by decide +kernel, List.mem_of_getElem? (i := 637) (by decide +kernel), List.mem_of_getElem? (i := 28) (by decide +kernel)⟩
def mX6_time : MD := (RX6, cX6_time, 2, some .long, "time", { frames := 4, cells := 0, slots := 0, locals := 89 }, fun _ => True)
theorem iX6_time : isM yX6_time mX6_time 1 := ⟨rfl, rfl, by decide +kernel, by decide +kernel, by decide +kernel, by decide +kernel, List.mem_of_getElem? (i := 641) (by decide +kernel), List.mem_of_getElem? (i := 28) (by decide +kernel)⟩
def mX6_ring : MD := (RX6, cX6_ring, 2, some .long, "ring", { frames := 4, cells := 0, slots := 0, locals := 89 }, fun _ => True)
theorem iX6_ring : isM yX6_ring mX6_ring 1 := ⟨rfl, rfl, by decide +kernel, by decide +kernel, by decide +kernel, by decide +kernel, List.mem_of_getElem? (i := 645) (by decide +kernel), List.mem_of_getElem? (i := 28) (by decide +kernel)⟩
def mX6_howManyUnderWay : MD := (RX6, cX6_howManyUnderWay, 3, some .int, "howManyUnderWay", { frames := 2, cells := 0, slots := 0, locals := 43 }, fun _ => True)
theorem iX6_howManyUnderWay : isM yX6_howManyUnderWay mX6_howManyUnderWay 0 := ⟨rfl, rfl, by decide +kernel, by decide +kernel, by decide +kernel, by decide +kernel, List.mem_of_getElem? (i := 653) (by decide +kernel), List.mem_of_getElem? (i := 28) (by decide +kernel)⟩
def mX6_count : MD := (RX6, cX6_count, 2, some .long, "count", { frames := 3, cells := 0, slots := 0, locals := 65 }, fun _ => True)
theorem iX6_count : isM yX6_count mX6_count 1 := ⟨rfl, rfl, by decide +kernel, by decide +kernel, by decide +kernel, by decide +kernel, List.mem_of_getElem? (i := 649) (by decide +kernel), List.mem_of_getElem? (i := 28) (by decide +kernel)⟩
def mX7_init : MD := (RX7, cX7_init, 1, none, "<init>", { frames := 1, cells := 41, slots := 4330, locals := 40 }, fun _ => True)
theorem iX7_init : isM yX7_init mX7_init 0 := ⟨rfl, rfl, by decide +kernel, by decide +kernel, by decide +kernel, by decide +kernel, List.mem_of_getElem? (i := 658) (by decide +kernel), List.mem_of_getElem? (i := 31) (by decide +kernel)⟩
def mX7_floor : MD := (RX7, cX7_floor, 6, some .long, "floor", { frames := 0, cells := 0, slots := 0, locals := 0 }, fun _ => True)
theorem iX7_floor : isM yX7_floor mX7_floor 2 := ⟨rfl, rfl, by decide +kernel, by decide +kernel, by decide +kernel, by decide +kernel, List.mem_of_getElem? (i := 864) (by decide +kernel), List.mem_of_getElem? (i := 31) (by decide +kernel)⟩
def mX7_ceil : MD := (RX7, cX7_ceil, 4, some .long, "ceil", { frames := 1, cells := 0, slots := 0, locals := 25 }, fun _ => True)
theorem iX7_ceil : isM yX7_ceil mX7_ceil 2 := ⟨rfl, rfl, by decide +kernel, by decide +kernel, by decide +kernel, by decide +kernel, List.mem_of_getElem? (i := 887) (by decide +kernel), List.mem_of_getElem? (i := 31) (by decide +kernel)⟩
def mX7_in : MD := (RX7, cX7_in, 6, some .boolean, "in", { frames := 0, cells := 0, slots := 0, locals := 0 }, fun _ => True)
theorem iX7_in : isM yX7_in mX7_in 3 := ⟨rfl, rfl, by decide +kernel, by decide +kernel, by decide +kernel, by decide +kernel, List.mem_of_getElem? (i := 825) (by decide +kernel), List.mem_of_getElem? (i := 31) (by decide +kernel)⟩
def mX7_isMember : MD := (RX7, cX7_isMember, 2, some .boolean, "isMember", { frames := 1, cells := 0, slots := 0, locals := 25 }, fun _ => True)
theorem iX7_isMember : isM yX7_isMember mX7_isMember 1 := ⟨rfl, rfl, by decide +kernel, by decide +kernel, by decide +kernel, by decide +kernel, List.mem_of_getElem? (i := 842) (by decide +kernel), List.mem_of_getElem? (i := 31) (by decide +kernel)⟩
def mX7_go : MD := (RX7, cX7_go, 2, some .long, "go", { frames := 1, cells := 0, slots := 0, locals := 25 }, fun _ => True)
theorem iX7_go : isM yX7_go mX7_go 1 := ⟨rfl, rfl, by decide +kernel, by decide +kernel, by decide +kernel, by decide +kernel, List.mem_of_getElem? (i := 821) (by decide +kernel), List.mem_of_getElem? (i := 31) (by decide +kernel)⟩
def mX7_member : MD := (RX7, cX7_member, 5, some .long, "member", { frames := 1, cells := 0, slots := 0, locals := 25 }, fun _ => True)
theorem iX7_member : isM yX7_member mX7_member 3 := ⟨rfl, rfl, by decide +kernel, by decide +kernel, by decide +kernel, by decide +kernel, List.mem_of_getElem? (i := 831) (by decide +kernel), List.mem_of_getElem? (i := 31) (by decide +kernel)⟩
def mX7_rate : MD := (RX7, cX7_rate, 6, some .long, "rate", { frames := 2, cells := 0, slots := 0, locals := 46 }, fun _ => True)
theorem iX7_rate : isM yX7_rate mX7_rate 3 := ⟨rfl, rfl, by decide +kernel, by decide +kernel, by decide +kernel, by decide +kernel, List.mem_of_getElem? (i := 838) (by decide +kernel), List.mem_of_getElem? (i := 31) (by decide +kernel)⟩
def mX7_lie : MD := (RX7, cX7_lie, 6, some .long, "lie", { frames := 2, cells := 0, slots := 0, locals := 46 }, fun _ => True)
theorem iX7_lie : isM yX7_lie mX7_lie 3 := ⟨rfl, rfl, by decide +kernel, by decide +kernel, by decide +kernel, by decide +kernel, List.mem_of_getElem? (i := 847) (by decide +kernel), List.mem_of_getElem? (i := 31) (by decide +kernel)⟩
def mX7_rest : MD := (RX7, cX7_rest, 4, some .long, "rest", { frames := 2, cells := 0, slots := 0, locals := 46 }, fun _ => True)
theorem iX7_rest : isM yX7_rest mX7_rest 2 := ⟨rfl, rfl, by decide +kernel, by decide +kernel, by decide +kernel, by decide +kernel, List.mem_of_getElem? (i := 853) (by decide +kernel), List.mem_of_getElem? (i := 31) (by decide +kernel)⟩
def mX7_counterOf : MD := (RX7, cX7_counterOf, 2, some .long, "counterOf", { frames := 1, cells := 0, slots := 0, locals := 25 }, fun _ => True)
theorem iX7_counterOf : isM yX7_counterOf mX7_counterOf 1 := ⟨rfl, rfl, by decide +kernel, by decide +kernel, by decide +kernel, by decide +kernel, List.mem_of_getElem? (i := 861) (by decide +kernel), List.mem_of_getElem? (i := 31) (by decide +kernel)⟩
def mX7_counter : MD := (RX7, cX7_counter, 2, some .long, "counter", { frames := 2, cells := 0, slots := 0, locals := 46 }, fun _ => True)
theorem iX7_counter : isM yX7_counter mX7_counter 1 := ⟨rfl, rfl, by decide +kernel, by decide +kernel, by decide +kernel, by decide +kernel, List.mem_of_getElem? (i := 857) (by decide +kernel), List.mem_of_getElem? (i := 31) (by decide +kernel)⟩
def mX7_atLeast : MD := (RX7, cX7_atLeast, 4, some .long, "atLeast", { frames := 1, cells := 0, slots := 0, locals := 25 }, fun _ => True)
theorem iX7_atLeast : isM yX7_atLeast mX7_atLeast 2 := ⟨rfl, rfl, by decide +kernel, by decide +kernel, by decide +kernel, by decide +kernel, List.mem_of_getElem? (i := 876) (by decide +kernel), List.mem_of_getElem? (i := 31) (by decide +kernel)⟩
def mX7_atMost : MD := (RX7, cX7_atMost, 4, some .long, "atMost", { frames := 2, cells := 0, slots := 0, locals := 48 }, fun _ => True)
theorem iX7_atMost : isM yX7_atMost mX7_atMost 2 := ⟨rfl, rfl, by decide +kernel, by decide +kernel, by decide +kernel, by decide +kernel, List.mem_of_getElem? (i := 884) (by decide +kernel), List.mem_of_getElem? (i := 31) (by decide +kernel)⟩
def mX7_lowOf : MD := (RX7, cX7_lowOf, 2, some .long, "lowOf", { frames := 2, cells := 0, slots := 0, locals := 48 }, fun _ => True)
theorem iX7_lowOf : isM yX7_lowOf mX7_lowOf 1 := ⟨rfl, rfl, by decide +kernel, by decide +kernel, by decide +kernel, by decide +kernel, List.mem_of_getElem? (i := 872) (by decide +kernel), List.mem_of_getElem? (i := 31) (by decide +kernel)⟩
def mX7_highOf : MD := (RX7, cX7_highOf, 2, some .long, "highOf", { frames := 3, cells := 0, slots := 0, locals := 71 }, fun _ => True)
theorem iX7_highOf : isM yX7_highOf mX7_highOf 1 := ⟨rfl, rfl, by decide +kernel, by decide +kernel, by decide +kernel, by decide +kernel, List.mem_of_getElem? (i := 880) (by decide +kernel), List.mem_of_getElem? (i := 31) (by decide +kernel)⟩
def mX7_heardLowOf : MD := (RX7, cX7_heardLowOf, 3, some .long, "heardLowOf", { frames := 2, cells := 0, slots := 0, locals := 48 }, fun _ => True)
theorem iX7_heardLowOf : isM yX7_heardLowOf mX7_heardLowOf 2 := ⟨rfl, rfl, by decide +kernel, by decide +kernel, by decide +kernel, by decide +kernel, List.mem_of_getElem? (i := 924) (by decide +kernel), List.mem_of_getElem? (i := 31) (by decide +kernel)⟩
def mX7_heardHighOf : MD := (RX7, cX7_heardHighOf, 3, some .long, "heardHighOf", { frames := 3, cells := 0, slots := 0, locals := 71 }, fun _ => True)
theorem iX7_heardHighOf : isM yX7_heardHighOf mX7_heardHighOf 2 := ⟨rfl, rfl, by decide +kernel, by decide +kernel, by decide +kernel, by decide +kernel, List.mem_of_getElem? (i := 928) (by decide +kernel), List.mem_of_getElem? (i := 31) (by decide +kernel)⟩
def mX7_heardMany : MD := (RX7, cX7_heardMany, 4, some .int, "heardMany", { frames := 0, cells := 0, slots := 0, locals := 0 }, fun _ => True)
theorem iX7_heardMany : isM yX7_heardMany mX7_heardMany 1 := ⟨rfl, rfl, by decide +kernel, by decide +kernel, by decide +kernel, by decide +kernel, List.mem_of_getElem? (i := 891) (by decide +kernel), List.mem_of_getElem? (i := 31) (by decide +kernel)⟩
def mX7_of : MD := (RX7, cX7_of, 3, some .long, "of", { frames := 4, cells := 0, slots := 0, locals := 92 }, fun _ => True)
theorem iX7_of : isM yX7_of mX7_of 2 := ⟨rfl, rfl, by decide +kernel, by decide +kernel, by decide +kernel, by decide +kernel, List.mem_of_getElem? (i := 868) (by decide +kernel), List.mem_of_getElem? (i := 31) (by decide +kernel)⟩
def mX7_ask : MD := (RX7, cX7_ask, 3, some .long, "ask", { frames := 2, cells := 0, slots := 0, locals := 46 }, fun _ => True)
theorem iX7_ask : isM yX7_ask mX7_ask 2 := ⟨rfl, rfl, by decide +kernel, by decide +kernel, by decide +kernel, by decide +kernel, List.mem_of_getElem? (i := 895) (by decide +kernel), List.mem_of_getElem? (i := 31) (by decide +kernel)⟩
def mX7_isUnderWay : MD := (RX7, cX7_isUnderWay, 2, some .boolean, "isUnderWay", { frames := 1, cells := 0, slots := 0, locals := 25 }, fun _ => True)
theorem iX7_isUnderWay : isM yX7_isUnderWay mX7_isUnderWay 1 := ⟨rfl, rfl, by decide +kernel, by decide +kernel, by decide +kernel, by decide +kernel, List.mem_of_getElem? (i := 903) (by decide +kernel), List.mem_of_getElem? (i := 31) (by decide +kernel)⟩
def mX7_deliver : MD := (RX7, cX7_deliver, 5, some .long, "deliver", { frames := 4, cells := 0, slots := 0, locals := 92 }, fun _ => True)
theorem iX7_deliver : isM yX7_deliver mX7_deliver 1 := ⟨rfl, rfl, by decide +kernel, by decide +kernel, by decide +kernel, by decide +kernel, List.mem_of_getElem? (i := 899) (by decide +kernel), List.mem_of_getElem? (i := 31) (by decide +kernel)⟩
def mX7_lose : MD := (RX7, cX7_lose, 2, some .long, "lose", { frames := 2, cells := 0, slots := 0, locals := 46 }, fun _ => True)
theorem iX7_lose : isM yX7_lose mX7_lose 1 := ⟨rfl, rfl, by decide +kernel, by decide +kernel, by decide +kernel, by decide +kernel, List.mem_of_getElem? (i := 908) (by decide +kernel), List.mem_of_getElem? (i := 31) (by decide +kernel)⟩
def mX7_twice : MD := (RX7, cX7_twice, 2, some .long, "twice", { frames := 2, cells := 0, slots := 0, locals := 46 }, fun _ => True)
theorem iX7_twice : isM yX7_twice mX7_twice 1 := ⟨rfl, rfl, by decide +kernel, by decide +kernel, by decide +kernel, by decide +kernel, List.mem_of_getElem? (i := 912) (by decide +kernel), List.mem_of_getElem? (i := 31) (by decide +kernel)⟩
def mX7_letter : MD := (RX7, cX7_letter, 3, some .long, "letter", { frames := 1, cells := 0, slots := 0, locals := 25 }, fun _ => True)
theorem iX7_letter : isM yX7_letter mX7_letter 2 := ⟨rfl, rfl, by decide +kernel, by decide +kernel, by decide +kernel, by decide +kernel, List.mem_of_getElem? (i := 916) (by decide +kernel), List.mem_of_getElem? (i := 31) (by decide +kernel)⟩
def mX7_heard : MD := (RX7, cX7_heard, 4, some .long, "heard", { frames := 4, cells := 0, slots := 0, locals := 93 }, fun _ => True)
theorem iX7_heard : isM yX7_heard mX7_heard 3 := ⟨rfl, rfl, by decide +kernel, by decide +kernel, by decide +kernel, by decide +kernel, List.mem_of_getElem? (i := 920) (by decide +kernel), List.mem_of_getElem? (i := 31) (by decide +kernel)⟩
def mX7_gather : MD := (RX7, cX7_gather, 3, none, "gather", { frames := 4, cells := 0, slots := 0, locals := 93 }, fun _ => True)
theorem iX7_gather : isM yX7_gather mX7_gather 1 := ⟨rfl, rfl, by decide +kernel, by decide +kernel, by decide +kernel, by decide +kernel, List.mem_of_getElem? (i := 936) (by decide +kernel), List.mem_of_getElem? (i := 31) (by decide +kernel)⟩
def mX7_votesFor : MD := (RX7, cX7_votesFor, 5, some .int, "votesFor", { frames := 1, cells := 0, slots := 0, locals := 25 }, fun _ => True)
theorem iX7_votesFor : isM yX7_votesFor mX7_votesFor 1 := ⟨rfl, rfl, by decide +kernel, by decide +kernel, by decide +kernel, by decide +kernel, List.mem_of_getElem? (i := 940) (by decide +kernel), List.mem_of_getElem? (i := 31) (by decide +kernel)⟩
def mX7_votes : MD := (RX7, cX7_votes, 4, some .long, "votes", { frames := 5, cells := 0, slots := 0, locals := 115 }, fun _ => True)
theorem iX7_votes : isM yX7_votes mX7_votes 2 := ⟨rfl, rfl, by decide +kernel, by decide +kernel, by decide +kernel, by decide +kernel, List.mem_of_getElem? (i := 932) (by decide +kernel), List.mem_of_getElem? (i := 31) (by decide +kernel)⟩
def mX7_findCouncil : MD := (RX7, cX7_findCouncil, 7, some .boolean, "findCouncil", { frames := 2, cells := 0, slots := 0, locals := 49 }, fun _ => True)
theorem iX7_findCouncil : isM yX7_findCouncil mX7_findCouncil 1 := ⟨rfl, rfl, by decide +kernel, by decide +kernel, by decide +kernel, by decide +kernel, List.mem_of_getElem? (i := 948) (by decide +kernel), List.mem_of_getElem? (i := 31) (by decide +kernel)⟩
def mX7_council : MD := (RX7, cX7_council, 5, some .long, "council", { frames := 5, cells := 0, slots := 0, locals := 115 }, fun _ => True)
theorem iX7_council : isM yX7_council mX7_council 3 := ⟨rfl, rfl, by decide +kernel, by decide +kernel, by decide +kernel, by decide +kernel, List.mem_of_getElem? (i := 944) (by decide +kernel), List.mem_of_getElem? (i := 31) (by decide +kernel)⟩
def mX7_meet : MD := (RX7, cX7_meet, 4, some .long, "meet", { frames := 5, cells := 0, slots := 0, locals := 115 }, fun _ => True)
theorem iX7_meet : isM yX7_meet mX7_meet 2 := ⟨rfl, rfl, by decide +kernel, by decide +kernel, by decide +kernel, by decide +kernel, List.mem_of_getElem? (i := 952) (by decide +kernel), List.mem_of_getElem? (i := 31) (by decide +kernel)⟩
def mX7_lead : MD := (RX7, cX7_lead, 9, some .long, "lead", { frames := 4, cells := 0, slots := 0, locals := 92 }, fun _ => True)
theorem iX7_lead : isM yX7_lead mX7_lead 2 := ⟨rfl, rfl, by decide +kernel, by decide +kernel, by decide +kernel, by decide +kernel, List.mem_of_getElem? (i := 956) (by decide +kernel), List.mem_of_getElem? (i := 31) (by decide +kernel)⟩
def mX7_stamp : MD := (RX7, cX7_stamp, 2, some .long, "stamp", { frames := 4, cells := 0, slots := 0, locals := 92 }, fun _ => True)
theorem iX7_stamp : isM yX7_stamp mX7_stamp 1 := ⟨rfl, rfl, by decide +kernel, by decide +kernel, by decide +kernel, by decide +kernel, List.mem_of_getElem? (i := 960) (by decide +kernel), List.mem_of_getElem? (i := 31) (by decide +kernel)⟩
def mX7_isStamp : MD := (RX7, cX7_isStamp, 2, some .boolean, "isStamp", { frames := 1, cells := 0, slots := 0, locals := 25 }, fun _ => True)
theorem iX7_isStamp : isM yX7_isStamp mX7_isStamp 1 := ⟨rfl, rfl, by decide +kernel, by decide +kernel, by decide +kernel, by decide +kernel, List.mem_of_getElem? (i := 968) (by decide +kernel), List.mem_of_getElem? (i := 31) (by decide +kernel)⟩
def mX7_given : MD := (RX7, cX7_given, 3, some .long, "given", { frames := 2, cells := 0, slots := 0, locals := 46 }, fun _ => True)
theorem iX7_given : isM yX7_given mX7_given 2 := ⟨rfl, rfl, by decide +kernel, by decide +kernel, by decide +kernel, by decide +kernel, List.mem_of_getElem? (i := 964) (by decide +kernel), List.mem_of_getElem? (i := 31) (by decide +kernel)⟩
def mX7_ahead : MD := (RX7, cX7_ahead, 3, some .long, "ahead", { frames := 2, cells := 0, slots := 0, locals := 46 }, fun _ => True)
theorem iX7_ahead : isM yX7_ahead mX7_ahead 2 := ⟨rfl, rfl, by decide +kernel, by decide +kernel, by decide +kernel, by decide +kernel, List.mem_of_getElem? (i := 972) (by decide +kernel), List.mem_of_getElem? (i := 31) (by decide +kernel)⟩
def mX7_wait : MD := (RX7, cX7_wait, 10, some .long, "wait", { frames := 2, cells := 0, slots := 0, locals := 48 }, fun _ => True)
theorem iX7_wait : isM yX7_wait mX7_wait 1 := ⟨rfl, rfl, by decide +kernel, by decide +kernel, by decide +kernel, by decide +kernel, List.mem_of_getElem? (i := 977) (by decide +kernel), List.mem_of_getElem? (i := 31) (by decide +kernel)⟩
def mX7_event : MD := (RX7, cX7_event, 2, some .long, "event", { frames := 2, cells := 0, slots := 0, locals := 46 }, fun _ => True)
theorem iX7_event : isM yX7_event mX7_event 1 := ⟨rfl, rfl, by decide +kernel, by decide +kernel, by decide +kernel, by decide +kernel, List.mem_of_getElem? (i := 981) (by decide +kernel), List.mem_of_getElem? (i := 31) (by decide +kernel)⟩
def mX7_isEvent : MD := (RX7, cX7_isEvent, 2, some .boolean, "isEvent", { frames := 1, cells := 0, slots := 0, locals := 25 }, fun _ => True)
theorem iX7_isEvent : isM yX7_isEvent mX7_isEvent 1 := ⟨rfl, rfl, by decide +kernel, by decide +kernel, by decide +kernel, by decide +kernel, List.mem_of_getElem? (i := 989) (by decide +kernel), List.mem_of_getElem? (i := 31) (by decide +kernel)⟩
def mX7_link : MD := (RX7, cX7_link, 3, some .long, "link", { frames := 2, cells := 0, slots := 0, locals := 46 }, fun _ => True)
theorem iX7_link : isM yX7_link mX7_link 2 := ⟨rfl, rfl, by decide +kernel, by decide +kernel, by decide +kernel, by decide +kernel, List.mem_of_getElem? (i := 985) (by decide +kernel), List.mem_of_getElem? (i := 31) (by decide +kernel)⟩
def mX7_findLongest : MD := (RX7, cX7_findLongest, 7, some .boolean, "findLongest", { frames := 0, cells := 0, slots := 0, locals := 0 }, fun _ => True)
theorem iX7_findLongest : isM yX7_findLongest mX7_findLongest 0 := ⟨rfl, rfl, by decide +kernel, by decide +kernel, by decide +kernel, by decide +kernel, List.mem_of_getElem? (i := 997) (by decide +kernel), List.mem_of_getElem? (i := 31) (by decide +kernel)⟩
def mX7_mend : MD := (RX7, cX7_mend, 8, some .long, "mend", { frames := 2, cells := 0, slots := 0, locals := 48 }, fun _ => True)
theorem iX7_mend : isM yX7_mend mX7_mend 0 := ⟨rfl, rfl, by decide +kernel, by decide +kernel, by decide +kernel, by decide +kernel, List.mem_of_getElem? (i := 993) (by decide +kernel), List.mem_of_getElem? (i := 31) (by decide +kernel)⟩
def mX7_findTimes : MD := (RX7, cX7_findTimes, 6, some .boolean, "findTimes", { frames := 3, cells := 0, slots := 0, locals := 75 }, fun _ => True)
theorem iX7_findTimes : isM yX7_findTimes mX7_findTimes 0 := ⟨rfl, rfl, by decide +kernel, by decide +kernel, by decide +kernel, by decide +kernel, List.mem_of_getElem? (i := 1005) (by decide +kernel), List.mem_of_getElem? (i := 31) (by decide +kernel)⟩
def mX7_order : MD := (RX7, cX7_order, 5, some .long, "order", { frames := 4, cells := 0, slots := 0, locals := 100 }, fun _ => True)
theorem iX7_order : isM yX7_order mX7_order 1 := ⟨rfl, rfl, by decide +kernel, by decide +kernel, by decide +kernel, by decide +kernel, List.mem_of_getElem? (i := 1001) (by decide +kernel), List.mem_of_getElem? (i := 31) (by decide +kernel)⟩
def mX7_time : MD := (RX7, cX7_time, 2, some .long, "time", { frames := 4, cells := 0, slots := 0, locals := 100 }, fun _ => True)
theorem iX7_time : isM yX7_time mX7_time 1 := ⟨rfl, rfl, by decide +kernel, by decide +kernel, by decide +kernel, by decide +kernel, List.mem_of_getElem? (i := 1010) (by decide +kernel), List.mem_of_getElem? (i := 31) (by decide +kernel)⟩
def mX7_ringFrom : MD := (RX7, cX7_ringFrom, 6, some .int, "ringFrom", { frames := 0, cells := 0, slots := 0, locals := 0 }, fun _ => True)
theorem iX7_ringFrom : isM yX7_ringFrom mX7_ringFrom 1 := ⟨rfl, rfl, by decide +kernel, by decide +kernel, by decide +kernel, by decide +kernel, List.mem_of_getElem? (i := 1018) (by decide +kernel), List.mem_of_getElem? (i := 31) (by decide +kernel)⟩
def mX7_ring : MD := (RX7, cX7_ring, 7, some .long, "ring", { frames := 1, cells := 0, slots := 0, locals := 25 }, fun _ => True)
theorem iX7_ring : isM yX7_ring mX7_ring 1 := ⟨rfl, rfl, by decide +kernel, by decide +kernel, by decide +kernel, by decide +kernel, List.mem_of_getElem? (i := 1014) (by decide +kernel), List.mem_of_getElem? (i := 31) (by decide +kernel)⟩
def mX7_count : MD := (RX7, cX7_count, 4, some .long, "count", { frames := 0, cells := 0, slots := 0, locals := 0 }, fun _ => True)
theorem iX7_count : isM yX7_count mX7_count 1 := ⟨rfl, rfl, by decide +kernel, by decide +kernel, by decide +kernel, by decide +kernel, List.mem_of_getElem? (i := 1022) (by decide +kernel), List.mem_of_getElem? (i := 31) (by decide +kernel)⟩
theorem flX0_9 : fLk RX0 9 0 0 := ⟨by decide, by decide, List.mem_of_getElem? (i := 57) (by decide +kernel)⟩
theorem flX0_15 : fLk RX0 15 0 1 := ⟨by decide, by decide, List.mem_of_getElem? (i := 59) (by decide +kernel)⟩
theorem flX0_19 : fLk RX0 19 0 2 := ⟨by decide, by decide, List.mem_of_getElem? (i := 60) (by decide +kernel)⟩
theorem flX0_22 : fLk RX0 22 0 3 := ⟨by decide, by decide, List.mem_of_getElem? (i := 61) (by decide +kernel)⟩
theorem flX1_9 : fLk RX1 9 1 0 := ⟨by decide, by decide, List.mem_of_getElem? (i := 361) (by decide +kernel)⟩
theorem flX1_15 : fLk RX1 15 1 1 := ⟨by decide, by decide, List.mem_of_getElem? (i := 363) (by decide +kernel)⟩
theorem flX1_18 : fLk RX1 18 1 2 := ⟨by decide, by decide, List.mem_of_getElem? (i := 365) (by decide +kernel)⟩
theorem flX1_22 : fLk RX1 22 1 3 := ⟨by decide, by decide, List.mem_of_getElem? (i := 367) (by decide +kernel)⟩
theorem flX1_26 : fLk RX1 26 2 1 := ⟨by decide, by decide, List.mem_of_getElem? (i := 206) (by decide +kernel)⟩
theorem flX1_31 : fLk RX1 31 2 10 := ⟨by decide, by decide, List.mem_of_getElem? (i := 222) (by decide +kernel)⟩
theorem flX1_38 : fLk RX1 38 1 5 := ⟨by decide, by decide, List.mem_of_getElem? (i := 371) (by decide +kernel)⟩
theorem flX1_41 : fLk RX1 41 2 11 := ⟨by decide, by decide, List.mem_of_getElem? (i := 224) (by decide +kernel)⟩
theorem flX1_47 : fLk RX1 47 1 6 := ⟨by decide, by decide, List.mem_of_getElem? (i := 373) (by decide +kernel)⟩
theorem flX1_50 : fLk RX1 50 1 4 := ⟨by decide, by decide, List.mem_of_getElem? (i := 369) (by decide +kernel)⟩
theorem flX1_57 : fLk RX1 57 2 0 := ⟨by decide, by decide, List.mem_of_getElem? (i := 203) (by decide +kernel)⟩
theorem flX1_60 : fLk RX1 60 2 2 := ⟨by decide, by decide, List.mem_of_getElem? (i := 209) (by decide +kernel)⟩
theorem flX2_9 : fLk RX2 9 2 0 := ⟨by decide, by decide, List.mem_of_getElem? (i := 202) (by decide +kernel)⟩
theorem flX2_15 : fLk RX2 15 2 1 := ⟨by decide, by decide, List.mem_of_getElem? (i := 205) (by decide +kernel)⟩
theorem flX2_18 : fLk RX2 18 2 2 := ⟨by decide, by decide, List.mem_of_getElem? (i := 208) (by decide +kernel)⟩
theorem flX2_21 : fLk RX2 21 2 3 := ⟨by decide, by decide, List.mem_of_getElem? (i := 211) (by decide +kernel)⟩
theorem flX2_24 : fLk RX2 24 2 4 := ⟨by decide, by decide, List.mem_of_getElem? (i := 212) (by decide +kernel)⟩
theorem flX2_28 : fLk RX2 28 2 5 := ⟨by decide, by decide, List.mem_of_getElem? (i := 214) (by decide +kernel)⟩
theorem flX2_31 : fLk RX2 31 2 6 := ⟨by decide, by decide, List.mem_of_getElem? (i := 216) (by decide +kernel)⟩
theorem flX2_37 : fLk RX2 37 2 8 := ⟨by decide, by decide, List.mem_of_getElem? (i := 219) (by decide +kernel)⟩
theorem flX2_45 : fLk RX2 45 2 12 := ⟨by decide, by decide, List.mem_of_getElem? (i := 226) (by decide +kernel)⟩
theorem flX2_48 : fLk RX2 48 2 9 := ⟨by decide, by decide, List.mem_of_getElem? (i := 221) (by decide +kernel)⟩
theorem flX2_73 : fLk RX2 73 4 0 := ⟨by decide, by decide, List.mem_of_getElem? (i := 182) (by decide +kernel)⟩
theorem flX3_9 : fLk RX3 9 3 0 := ⟨by decide, by decide, List.mem_of_getElem? (i := 80) (by decide +kernel)⟩
theorem flX3_15 : fLk RX3 15 3 1 := ⟨by decide, by decide, List.mem_of_getElem? (i := 81) (by decide +kernel)⟩
theorem flX3_18 : fLk RX3 18 3 3 := ⟨by decide, by decide, List.mem_of_getElem? (i := 84) (by decide +kernel)⟩
theorem flX3_22 : fLk RX3 22 3 4 := ⟨by decide, by decide, List.mem_of_getElem? (i := 85) (by decide +kernel)⟩
theorem flX3_25 : fLk RX3 25 3 6 := ⟨by decide, by decide, List.mem_of_getElem? (i := 88) (by decide +kernel)⟩
theorem flX3_28 : fLk RX3 28 3 7 := ⟨by decide, by decide, List.mem_of_getElem? (i := 89) (by decide +kernel)⟩
theorem flX3_31 : fLk RX3 31 3 8 := ⟨by decide, by decide, List.mem_of_getElem? (i := 91) (by decide +kernel)⟩
theorem flX3_34 : fLk RX3 34 3 9 := ⟨by decide, by decide, List.mem_of_getElem? (i := 93) (by decide +kernel)⟩
theorem flX3_37 : fLk RX3 37 3 10 := ⟨by decide, by decide, List.mem_of_getElem? (i := 95) (by decide +kernel)⟩
theorem flX3_40 : fLk RX3 40 3 2 := ⟨by decide, by decide, List.mem_of_getElem? (i := 82) (by decide +kernel)⟩
theorem flX3_46 : fLk RX3 46 3 13 := ⟨by decide, by decide, List.mem_of_getElem? (i := 100) (by decide +kernel)⟩
theorem flX3_50 : fLk RX3 50 3 5 := ⟨by decide, by decide, List.mem_of_getElem? (i := 86) (by decide +kernel)⟩
theorem flX3_57 : fLk RX3 57 3 11 := ⟨by decide, by decide, List.mem_of_getElem? (i := 96) (by decide +kernel)⟩
theorem flX3_66 : fLk RX3 66 3 12 := ⟨by decide, by decide, List.mem_of_getElem? (i := 98) (by decide +kernel)⟩
theorem flX4_7 : fLk RX4 7 4 0 := ⟨by decide, by decide, List.mem_of_getElem? (i := 181) (by decide +kernel)⟩
theorem flX4_13 : fLk RX4 13 4 1 := ⟨by decide, by decide, List.mem_of_getElem? (i := 183) (by decide +kernel)⟩
theorem flX4_17 : fLk RX4 17 4 2 := ⟨by decide, by decide, List.mem_of_getElem? (i := 185) (by decide +kernel)⟩
theorem flX4_20 : fLk RX4 20 4 3 := ⟨by decide, by decide, List.mem_of_getElem? (i := 186) (by decide +kernel)⟩
theorem flX5_7 : fLk RX5 7 5 0 := ⟨by decide, by decide, List.mem_of_getElem? (i := 531) (by decide +kernel)⟩
theorem flX5_13 : fLk RX5 13 5 1 := ⟨by decide, by decide, List.mem_of_getElem? (i := 533) (by decide +kernel)⟩
theorem flX5_16 : fLk RX5 16 5 2 := ⟨by decide, by decide, List.mem_of_getElem? (i := 535) (by decide +kernel)⟩
theorem flX5_20 : fLk RX5 20 5 3 := ⟨by decide, by decide, List.mem_of_getElem? (i := 537) (by decide +kernel)⟩
theorem flX6_7 : fLk RX6 7 6 0 := ⟨by decide, by decide, List.mem_of_getElem? (i := 130) (by decide +kernel)⟩
theorem flX6_15 : fLk RX6 15 6 1 := ⟨by decide, by decide, List.mem_of_getElem? (i := 131) (by decide +kernel)⟩
theorem flX6_19 : fLk RX6 19 6 2 := ⟨by decide, by decide, List.mem_of_getElem? (i := 132) (by decide +kernel)⟩
theorem flX6_25 : fLk RX6 25 6 3 := ⟨by decide, by decide, List.mem_of_getElem? (i := 133) (by decide +kernel)⟩
theorem flX6_29 : fLk RX6 29 6 4 := ⟨by decide, by decide, List.mem_of_getElem? (i := 134) (by decide +kernel)⟩
theorem flX6_34 : fLk RX6 34 6 5 := ⟨by decide, by decide, List.mem_of_getElem? (i := 135) (by decide +kernel)⟩
theorem flX6_38 : fLk RX6 38 6 6 := ⟨by decide, by decide, List.mem_of_getElem? (i := 136) (by decide +kernel)⟩
theorem flX6_44 : fLk RX6 44 6 7 := ⟨by decide, by decide, List.mem_of_getElem? (i := 137) (by decide +kernel)⟩
theorem flX6_51 : fLk RX6 51 6 8 := ⟨by decide, by decide, List.mem_of_getElem? (i := 138) (by decide +kernel)⟩
theorem flX6_68 : fLk RX6 68 2 4 := ⟨by decide, by decide, List.mem_of_getElem? (i := 213) (by decide +kernel)⟩
theorem flX6_71 : fLk RX6 71 2 5 := ⟨by decide, by decide, List.mem_of_getElem? (i := 215) (by decide +kernel)⟩
theorem flX6_74 : fLk RX6 74 2 6 := ⟨by decide, by decide, List.mem_of_getElem? (i := 217) (by decide +kernel)⟩
theorem flX6_85 : fLk RX6 85 2 2 := ⟨by decide, by decide, List.mem_of_getElem? (i := 210) (by decide +kernel)⟩
theorem flX6_92 : fLk RX6 92 2 1 := ⟨by decide, by decide, List.mem_of_getElem? (i := 207) (by decide +kernel)⟩
theorem flX6_99 : fLk RX6 99 2 10 := ⟨by decide, by decide, List.mem_of_getElem? (i := 223) (by decide +kernel)⟩
theorem flX6_102 : fLk RX6 102 2 11 := ⟨by decide, by decide, List.mem_of_getElem? (i := 225) (by decide +kernel)⟩
theorem flX6_105 : fLk RX6 105 2 7 := ⟨by decide, by decide, List.mem_of_getElem? (i := 218) (by decide +kernel)⟩
theorem flX6_118 : fLk RX6 118 2 12 := ⟨by decide, by decide, List.mem_of_getElem? (i := 227) (by decide +kernel)⟩
theorem flX6_125 : fLk RX6 125 2 14 := ⟨by decide, by decide, List.mem_of_getElem? (i := 229) (by decide +kernel)⟩
theorem flX6_128 : fLk RX6 128 2 15 := ⟨by decide, by decide, List.mem_of_getElem? (i := 230) (by decide +kernel)⟩
theorem flX6_146 : fLk RX6 146 1 3 := ⟨by decide, by decide, List.mem_of_getElem? (i := 368) (by decide +kernel)⟩
theorem flX6_149 : fLk RX6 149 1 1 := ⟨by decide, by decide, List.mem_of_getElem? (i := 364) (by decide +kernel)⟩
theorem flX6_153 : fLk RX6 153 1 0 := ⟨by decide, by decide, List.mem_of_getElem? (i := 362) (by decide +kernel)⟩
theorem flX6_165 : fLk RX6 165 1 2 := ⟨by decide, by decide, List.mem_of_getElem? (i := 366) (by decide +kernel)⟩
theorem flX6_168 : fLk RX6 168 1 4 := ⟨by decide, by decide, List.mem_of_getElem? (i := 370) (by decide +kernel)⟩
theorem flX6_171 : fLk RX6 171 1 5 := ⟨by decide, by decide, List.mem_of_getElem? (i := 372) (by decide +kernel)⟩
theorem flX6_174 : fLk RX6 174 1 6 := ⟨by decide, by decide, List.mem_of_getElem? (i := 374) (by decide +kernel)⟩
theorem flX6_180 : fLk RX6 180 2 0 := ⟨by decide, by decide, List.mem_of_getElem? (i := 204) (by decide +kernel)⟩
theorem flX6_202 : fLk RX6 202 0 3 := ⟨by decide, by decide, List.mem_of_getElem? (i := 62) (by decide +kernel)⟩
theorem flX6_227 : fLk RX6 227 2 8 := ⟨by decide, by decide, List.mem_of_getElem? (i := 220) (by decide +kernel)⟩
theorem flX6_237 : fLk RX6 237 2 13 := ⟨by decide, by decide, List.mem_of_getElem? (i := 228) (by decide +kernel)⟩
theorem flX6_257 : fLk RX6 257 5 0 := ⟨by decide, by decide, List.mem_of_getElem? (i := 532) (by decide +kernel)⟩
theorem flX6_258 : fLk RX6 258 5 1 := ⟨by decide, by decide, List.mem_of_getElem? (i := 534) (by decide +kernel)⟩
theorem flX6_259 : fLk RX6 259 5 2 := ⟨by decide, by decide, List.mem_of_getElem? (i := 536) (by decide +kernel)⟩
theorem flX6_262 : fLk RX6 262 5 3 := ⟨by decide, by decide, List.mem_of_getElem? (i := 538) (by decide +kernel)⟩
theorem flX6_271 : fLk RX6 271 4 3 := ⟨by decide, by decide, List.mem_of_getElem? (i := 187) (by decide +kernel)⟩
theorem flX6_274 : fLk RX6 274 4 1 := ⟨by decide, by decide, List.mem_of_getElem? (i := 184) (by decide +kernel)⟩
theorem flX6_279 : fLk RX6 279 3 2 := ⟨by decide, by decide, List.mem_of_getElem? (i := 83) (by decide +kernel)⟩
theorem flX6_288 : fLk RX6 288 3 5 := ⟨by decide, by decide, List.mem_of_getElem? (i := 87) (by decide +kernel)⟩
theorem flX6_298 : fLk RX6 298 3 12 := ⟨by decide, by decide, List.mem_of_getElem? (i := 99) (by decide +kernel)⟩
theorem flX6_301 : fLk RX6 301 3 8 := ⟨by decide, by decide, List.mem_of_getElem? (i := 92) (by decide +kernel)⟩
theorem flX6_305 : fLk RX6 305 3 7 := ⟨by decide, by decide, List.mem_of_getElem? (i := 90) (by decide +kernel)⟩
theorem flX6_309 : fLk RX6 309 3 11 := ⟨by decide, by decide, List.mem_of_getElem? (i := 97) (by decide +kernel)⟩
theorem flX6_312 : fLk RX6 312 3 9 := ⟨by decide, by decide, List.mem_of_getElem? (i := 94) (by decide +kernel)⟩
theorem flX6_329 : fLk RX6 329 0 0 := ⟨by decide, by decide, List.mem_of_getElem? (i := 58) (by decide +kernel)⟩
theorem flX7_7 : fLk RX7 7 7 2 := ⟨by decide, by decide, List.mem_of_getElem? (i := 662) (by decide +kernel)⟩
theorem flX7_13 : fLk RX7 13 7 3 := ⟨by decide, by decide, List.mem_of_getElem? (i := 663) (by decide +kernel)⟩
theorem flX7_17 : fLk RX7 17 7 4 := ⟨by decide, by decide, List.mem_of_getElem? (i := 664) (by decide +kernel)⟩
theorem flX7_20 : fLk RX7 20 7 5 := ⟨by decide, by decide, List.mem_of_getElem? (i := 665) (by decide +kernel)⟩
theorem flX7_23 : fLk RX7 23 7 6 := ⟨by decide, by decide, List.mem_of_getElem? (i := 666) (by decide +kernel)⟩
theorem flX7_26 : fLk RX7 26 7 7 := ⟨by decide, by decide, List.mem_of_getElem? (i := 667) (by decide +kernel)⟩
theorem flX7_29 : fLk RX7 29 7 8 := ⟨by decide, by decide, List.mem_of_getElem? (i := 668) (by decide +kernel)⟩
theorem flX7_32 : fLk RX7 32 7 9 := ⟨by decide, by decide, List.mem_of_getElem? (i := 669) (by decide +kernel)⟩
theorem flX7_35 : fLk RX7 35 7 10 := ⟨by decide, by decide, List.mem_of_getElem? (i := 670) (by decide +kernel)⟩
theorem flX7_38 : fLk RX7 38 7 11 := ⟨by decide, by decide, List.mem_of_getElem? (i := 671) (by decide +kernel)⟩
theorem flX7_41 : fLk RX7 41 7 12 := ⟨by decide, by decide, List.mem_of_getElem? (i := 672) (by decide +kernel)⟩
theorem flX7_44 : fLk RX7 44 7 13 := ⟨by decide, by decide, List.mem_of_getElem? (i := 673) (by decide +kernel)⟩
theorem flX7_48 : fLk RX7 48 7 14 := ⟨by decide, by decide, List.mem_of_getElem? (i := 674) (by decide +kernel)⟩
theorem flX7_51 : fLk RX7 51 7 15 := ⟨by decide, by decide, List.mem_of_getElem? (i := 675) (by decide +kernel)⟩
theorem flX7_54 : fLk RX7 54 7 16 := ⟨by decide, by decide, List.mem_of_getElem? (i := 676) (by decide +kernel)⟩
theorem flX7_57 : fLk RX7 57 7 17 := ⟨by decide, by decide, List.mem_of_getElem? (i := 677) (by decide +kernel)⟩
theorem flX7_60 : fLk RX7 60 7 18 := ⟨by decide, by decide, List.mem_of_getElem? (i := 678) (by decide +kernel)⟩
theorem flX7_63 : fLk RX7 63 7 19 := ⟨by decide, by decide, List.mem_of_getElem? (i := 679) (by decide +kernel)⟩
theorem flX7_66 : fLk RX7 66 7 20 := ⟨by decide, by decide, List.mem_of_getElem? (i := 680) (by decide +kernel)⟩
theorem flX7_69 : fLk RX7 69 7 21 := ⟨by decide, by decide, List.mem_of_getElem? (i := 681) (by decide +kernel)⟩
theorem flX7_72 : fLk RX7 72 7 23 := ⟨by decide, by decide, List.mem_of_getElem? (i := 683) (by decide +kernel)⟩
theorem flX7_75 : fLk RX7 75 7 24 := ⟨by decide, by decide, List.mem_of_getElem? (i := 684) (by decide +kernel)⟩
theorem flX7_78 : fLk RX7 78 7 25 := ⟨by decide, by decide, List.mem_of_getElem? (i := 685) (by decide +kernel)⟩
theorem flX7_81 : fLk RX7 81 7 26 := ⟨by decide, by decide, List.mem_of_getElem? (i := 686) (by decide +kernel)⟩
theorem flX7_84 : fLk RX7 84 7 27 := ⟨by decide, by decide, List.mem_of_getElem? (i := 687) (by decide +kernel)⟩
theorem flX7_87 : fLk RX7 87 7 28 := ⟨by decide, by decide, List.mem_of_getElem? (i := 688) (by decide +kernel)⟩
theorem flX7_90 : fLk RX7 90 7 29 := ⟨by decide, by decide, List.mem_of_getElem? (i := 689) (by decide +kernel)⟩
theorem flX7_93 : fLk RX7 93 7 31 := ⟨by decide, by decide, List.mem_of_getElem? (i := 691) (by decide +kernel)⟩
theorem flX7_96 : fLk RX7 96 7 32 := ⟨by decide, by decide, List.mem_of_getElem? (i := 692) (by decide +kernel)⟩
theorem flX7_99 : fLk RX7 99 7 33 := ⟨by decide, by decide, List.mem_of_getElem? (i := 693) (by decide +kernel)⟩
theorem flX7_102 : fLk RX7 102 7 34 := ⟨by decide, by decide, List.mem_of_getElem? (i := 694) (by decide +kernel)⟩
theorem flX7_105 : fLk RX7 105 7 36 := ⟨by decide, by decide, List.mem_of_getElem? (i := 696) (by decide +kernel)⟩
theorem flX7_108 : fLk RX7 108 7 37 := ⟨by decide, by decide, List.mem_of_getElem? (i := 697) (by decide +kernel)⟩
theorem flX7_111 : fLk RX7 111 7 39 := ⟨by decide, by decide, List.mem_of_getElem? (i := 699) (by decide +kernel)⟩
theorem flX7_114 : fLk RX7 114 7 41 := ⟨by decide, by decide, List.mem_of_getElem? (i := 701) (by decide +kernel)⟩
theorem flX7_117 : fLk RX7 117 7 42 := ⟨by decide, by decide, List.mem_of_getElem? (i := 702) (by decide +kernel)⟩
theorem flX7_120 : fLk RX7 120 7 43 := ⟨by decide, by decide, List.mem_of_getElem? (i := 703) (by decide +kernel)⟩
theorem flX7_123 : fLk RX7 123 7 44 := ⟨by decide, by decide, List.mem_of_getElem? (i := 704) (by decide +kernel)⟩
theorem flX7_126 : fLk RX7 126 7 49 := ⟨by decide, by decide, List.mem_of_getElem? (i := 709) (by decide +kernel)⟩
theorem flX7_129 : fLk RX7 129 7 50 := ⟨by decide, by decide, List.mem_of_getElem? (i := 710) (by decide +kernel)⟩
theorem flX7_132 : fLk RX7 132 7 51 := ⟨by decide, by decide, List.mem_of_getElem? (i := 711) (by decide +kernel)⟩
theorem flX7_139 : fLk RX7 139 7 1 := ⟨by decide, by decide, List.mem_of_getElem? (i := 661) (by decide +kernel)⟩
theorem flX7_149 : fLk RX7 149 7 0 := ⟨by decide, by decide, List.mem_of_getElem? (i := 660) (by decide +kernel)⟩
theorem flX7_197 : fLk RX7 197 7 22 := ⟨by decide, by decide, List.mem_of_getElem? (i := 682) (by decide +kernel)⟩
theorem flX7_212 : fLk RX7 212 7 40 := ⟨by decide, by decide, List.mem_of_getElem? (i := 700) (by decide +kernel)⟩
theorem flX7_223 : fLk RX7 223 7 45 := ⟨by decide, by decide, List.mem_of_getElem? (i := 705) (by decide +kernel)⟩
theorem flX7_226 : fLk RX7 226 7 46 := ⟨by decide, by decide, List.mem_of_getElem? (i := 706) (by decide +kernel)⟩
theorem flX7_229 : fLk RX7 229 7 47 := ⟨by decide, by decide, List.mem_of_getElem? (i := 707) (by decide +kernel)⟩
theorem flX7_232 : fLk RX7 232 7 48 := ⟨by decide, by decide, List.mem_of_getElem? (i := 708) (by decide +kernel)⟩
theorem flX7_238 : fLk RX7 238 7 30 := ⟨by decide, by decide, List.mem_of_getElem? (i := 690) (by decide +kernel)⟩
theorem flX7_246 : fLk RX7 246 7 35 := ⟨by decide, by decide, List.mem_of_getElem? (i := 695) (by decide +kernel)⟩
theorem flX7_252 : fLk RX7 252 7 38 := ⟨by decide, by decide, List.mem_of_getElem? (i := 698) (by decide +kernel)⟩
theorem mlL_9 : Cond.methodLink RL 9 yX6_init ∈ lw_tbl := List.mem_of_getElem? (i := 39) (by decide +kernel)
theorem mlL_12 : Cond.methodLink RL 12 yX7_init ∈ lw_tbl := List.mem_of_getElem? (i := 656) (by decide +kernel)
theorem mlL_13 : Cond.methodLink RL 13 yX6_go ∈ lw_tbl := List.mem_of_getElem? (i := 158) (by decide +kernel)
theorem mlL_17 : Cond.methodLink RL 17 yX7_go ∈ lw_tbl := List.mem_of_getElem? (i := 818) (by decide +kernel)
theorem mlL_18 : Cond.methodLink RL 18 yX6_member ∈ lw_tbl := List.mem_of_getElem? (i := 165) (by decide +kernel)
theorem mlL_22 : Cond.methodLink RL 22 yX7_member ∈ lw_tbl := List.mem_of_getElem? (i := 828) (by decide +kernel)
theorem mlL_23 : Cond.methodLink RL 23 yX6_rate ∈ lw_tbl := List.mem_of_getElem? (i := 264) (by decide +kernel)
theorem mlL_26 : Cond.methodLink RL 26 yX7_rate ∈ lw_tbl := List.mem_of_getElem? (i := 835) (by decide +kernel)
theorem mlL_29 : Cond.methodLink RL 29 yX6_lie ∈ lw_tbl := List.mem_of_getElem? (i := 279) (by decide +kernel)
theorem mlL_33 : Cond.methodLink RL 33 yX7_lie ∈ lw_tbl := List.mem_of_getElem? (i := 844) (by decide +kernel)
theorem mlL_34 : Cond.methodLink RL 34 yX6_rest ∈ lw_tbl := List.mem_of_getElem? (i := 285) (by decide +kernel)
theorem mlL_38 : Cond.methodLink RL 38 yX7_rest ∈ lw_tbl := List.mem_of_getElem? (i := 850) (by decide +kernel)
theorem mlL_39 : Cond.methodLink RL 39 yX6_counter ∈ lw_tbl := List.mem_of_getElem? (i := 289) (by decide +kernel)
theorem mlL_42 : Cond.methodLink RL 42 yX7_counter ∈ lw_tbl := List.mem_of_getElem? (i := 854) (by decide +kernel)
theorem mlL_43 : Cond.methodLink RL 43 yX6_of ∈ lw_tbl := List.mem_of_getElem? (i := 303) (by decide +kernel)
theorem mlL_47 : Cond.methodLink RL 47 yX7_of ∈ lw_tbl := List.mem_of_getElem? (i := 865) (by decide +kernel)
theorem mlL_48 : Cond.methodLink RL 48 yX6_ask ∈ lw_tbl := List.mem_of_getElem? (i := 352) (by decide +kernel)
theorem mlL_51 : Cond.methodLink RL 51 yX7_ask ∈ lw_tbl := List.mem_of_getElem? (i := 892) (by decide +kernel)
theorem mlL_52 : Cond.methodLink RL 52 yX6_deliver ∈ lw_tbl := List.mem_of_getElem? (i := 394) (by decide +kernel)
theorem mlL_55 : Cond.methodLink RL 55 yX7_deliver ∈ lw_tbl := List.mem_of_getElem? (i := 896) (by decide +kernel)
theorem mlL_56 : Cond.methodLink RL 56 yX6_lose ∈ lw_tbl := List.mem_of_getElem? (i := 427) (by decide +kernel)
theorem mlL_59 : Cond.methodLink RL 59 yX7_lose ∈ lw_tbl := List.mem_of_getElem? (i := 905) (by decide +kernel)
theorem mlL_60 : Cond.methodLink RL 60 yX6_twice ∈ lw_tbl := List.mem_of_getElem? (i := 431) (by decide +kernel)
theorem mlL_63 : Cond.methodLink RL 63 yX7_twice ∈ lw_tbl := List.mem_of_getElem? (i := 909) (by decide +kernel)
theorem mlL_64 : Cond.methodLink RL 64 yX6_letter ∈ lw_tbl := List.mem_of_getElem? (i := 435) (by decide +kernel)
theorem mlL_67 : Cond.methodLink RL 67 yX7_letter ∈ lw_tbl := List.mem_of_getElem? (i := 913) (by decide +kernel)
theorem mlL_68 : Cond.methodLink RL 68 yX6_heard ∈ lw_tbl := List.mem_of_getElem? (i := 439) (by decide +kernel)
theorem mlL_71 : Cond.methodLink RL 71 yX7_heard ∈ lw_tbl := List.mem_of_getElem? (i := 917) (by decide +kernel)
theorem mlL_72 : Cond.methodLink RL 72 yX6_votes ∈ lw_tbl := List.mem_of_getElem? (i := 453) (by decide +kernel)
theorem mlL_76 : Cond.methodLink RL 76 yX7_votes ∈ lw_tbl := List.mem_of_getElem? (i := 929) (by decide +kernel)
theorem mlL_77 : Cond.methodLink RL 77 yX6_council ∈ lw_tbl := List.mem_of_getElem? (i := 473) (by decide +kernel)
theorem mlL_80 : Cond.methodLink RL 80 yX7_council ∈ lw_tbl := List.mem_of_getElem? (i := 941) (by decide +kernel)
theorem mlL_81 : Cond.methodLink RL 81 yX6_meet ∈ lw_tbl := List.mem_of_getElem? (i := 499) (by decide +kernel)
theorem mlL_84 : Cond.methodLink RL 84 yX7_meet ∈ lw_tbl := List.mem_of_getElem? (i := 949) (by decide +kernel)
theorem mlL_85 : Cond.methodLink RL 85 yX6_lead ∈ lw_tbl := List.mem_of_getElem? (i := 512) (by decide +kernel)
theorem mlL_88 : Cond.methodLink RL 88 yX7_lead ∈ lw_tbl := List.mem_of_getElem? (i := 953) (by decide +kernel)
theorem mlL_89 : Cond.methodLink RL 89 yX6_stamp ∈ lw_tbl := List.mem_of_getElem? (i := 522) (by decide +kernel)
theorem mlL_92 : Cond.methodLink RL 92 yX7_stamp ∈ lw_tbl := List.mem_of_getElem? (i := 957) (by decide +kernel)
theorem mlL_93 : Cond.methodLink RL 93 yX6_given ∈ lw_tbl := List.mem_of_getElem? (i := 548) (by decide +kernel)
theorem mlL_96 : Cond.methodLink RL 96 yX7_given ∈ lw_tbl := List.mem_of_getElem? (i := 961) (by decide +kernel)
theorem mlL_97 : Cond.methodLink RL 97 yX6_ahead ∈ lw_tbl := List.mem_of_getElem? (i := 556) (by decide +kernel)
theorem mlL_100 : Cond.methodLink RL 100 yX7_ahead ∈ lw_tbl := List.mem_of_getElem? (i := 969) (by decide +kernel)
theorem mlL_101 : Cond.methodLink RL 101 yX6_wait ∈ lw_tbl := List.mem_of_getElem? (i := 561) (by decide +kernel)
theorem mlL_104 : Cond.methodLink RL 104 yX7_wait ∈ lw_tbl := List.mem_of_getElem? (i := 974) (by decide +kernel)
theorem mlL_105 : Cond.methodLink RL 105 yX6_event ∈ lw_tbl := List.mem_of_getElem? (i := 572) (by decide +kernel)
theorem mlL_108 : Cond.methodLink RL 108 yX7_event ∈ lw_tbl := List.mem_of_getElem? (i := 978) (by decide +kernel)
theorem mlL_109 : Cond.methodLink RL 109 yX6_link ∈ lw_tbl := List.mem_of_getElem? (i := 581) (by decide +kernel)
theorem mlL_112 : Cond.methodLink RL 112 yX7_link ∈ lw_tbl := List.mem_of_getElem? (i := 982) (by decide +kernel)
theorem mlL_113 : Cond.methodLink RL 113 yX6_mend ∈ lw_tbl := List.mem_of_getElem? (i := 594) (by decide +kernel)
theorem mlL_117 : Cond.methodLink RL 117 yX7_mend ∈ lw_tbl := List.mem_of_getElem? (i := 990) (by decide +kernel)
theorem mlL_118 : Cond.methodLink RL 118 yX6_order ∈ lw_tbl := List.mem_of_getElem? (i := 634) (by decide +kernel)
theorem mlL_121 : Cond.methodLink RL 121 yX7_order ∈ lw_tbl := List.mem_of_getElem? (i := 998) (by decide +kernel)
theorem mlL_122 : Cond.methodLink RL 122 yX6_time ∈ lw_tbl := List.mem_of_getElem? (i := 638) (by decide +kernel)
theorem mlL_125 : Cond.methodLink RL 125 yX7_time ∈ lw_tbl := List.mem_of_getElem? (i := 1007) (by decide +kernel)
theorem mlL_126 : Cond.methodLink RL 126 yX6_ring ∈ lw_tbl := List.mem_of_getElem? (i := 642) (by decide +kernel)
theorem mlL_129 : Cond.methodLink RL 129 yX7_ring ∈ lw_tbl := List.mem_of_getElem? (i := 1011) (by decide +kernel)
theorem mlL_130 : Cond.methodLink RL 130 yX6_count ∈ lw_tbl := List.mem_of_getElem? (i := 646) (by decide +kernel)
theorem mlL_133 : Cond.methodLink RL 133 yX7_count ∈ lw_tbl := List.mem_of_getElem? (i := 1019) (by decide +kernel)
theorem mlX0_3 : Cond.methodLink RX0 3 objectInit ∈ lw_tbl := List.mem_of_getElem? (i := 56) (by decide +kernel)
theorem mlX0_28 : Cond.methodLink RX0 28 yX0_having ∈ lw_tbl := List.mem_of_getElem? (i := 481) (by decide +kernel)
theorem mlX0_32 : Cond.methodLink RX0 32 yX0_beganBefore ∈ lw_tbl := List.mem_of_getElem? (i := 482) (by decide +kernel)
theorem mlX1_3 : Cond.methodLink RX1 3 objectInit ∈ lw_tbl := List.mem_of_getElem? (i := 360) (by decide +kernel)
theorem mlX1_34 : Cond.methodLink RX1 34 yX2_lowAt ∈ lw_tbl := List.mem_of_getElem? (i := 414) (by decide +kernel)
theorem mlX1_44 : Cond.methodLink RX1 44 yX2_highAt ∈ lw_tbl := List.mem_of_getElem? (i := 415) (by decide +kernel)
theorem mlX1_54 : Cond.methodLink RX1 54 yX2_countedAt ∈ lw_tbl := List.mem_of_getElem? (i := 420) (by decide +kernel)
theorem mlX1_67 : Cond.methodLink RX1 67 yX2_hear ∈ lw_tbl := List.mem_of_getElem? (i := 422) (by decide +kernel)
theorem mlX2_3 : Cond.methodLink RX2 3 objectInit ∈ lw_tbl := List.mem_of_getElem? (i := 174) (by decide +kernel)
theorem mlX2_41 : Cond.methodLink RX2 41 yX4_put ∈ lw_tbl := List.mem_of_getElem? (i := 197) (by decide +kernel)
theorem mlX2_56 : Cond.methodLink RX2 56 yX2_countedAt ∈ lw_tbl := List.mem_of_getElem? (i := 311) (by decide +kernel)
theorem mlX2_60 : Cond.methodLink RX2 60 yX4_lowWhen ∈ lw_tbl := List.mem_of_getElem? (i := 312) (by decide +kernel)
theorem mlX2_64 : Cond.methodLink RX2 64 yX4_highWhen ∈ lw_tbl := List.mem_of_getElem? (i := 324) (by decide +kernel)
theorem mlX2_67 : Cond.methodLink RX2 67 yX2_lowAt ∈ lw_tbl := List.mem_of_getElem? (i := 338) (by decide +kernel)
theorem mlX2_70 : Cond.methodLink RX2 70 yX2_highAt ∈ lw_tbl := List.mem_of_getElem? (i := 339) (by decide +kernel)
theorem mlX2_77 : Cond.methodLink RX2 77 yX2_spanOf ∈ lw_tbl := List.mem_of_getElem? (i := 348) (by decide +kernel)
theorem mlX2_83 : Cond.methodLink RX2 83 yX2_hasHeardOf ∈ lw_tbl := List.mem_of_getElem? (i := 344) (by decide +kernel)
theorem mlX3_3 : Cond.methodLink RX3 3 objectInit ∈ lw_tbl := List.mem_of_getElem? (i := 79) (by decide +kernel)
theorem mlX3_53 : Cond.methodLink RX3 53 yX3_hasEvent ∈ lw_tbl := List.mem_of_getElem? (i := 593) (by decide +kernel)
theorem mlX3_60 : Cond.methodLink RX3 60 yX3_findEarliest ∈ lw_tbl := List.mem_of_getElem? (i := 602) (by decide +kernel)
theorem mlX3_70 : Cond.methodLink RX3 70 yX3_findRing ∈ lw_tbl := List.mem_of_getElem? (i := 611) (by decide +kernel)
theorem mlX3_73 : Cond.methodLink RX3 73 yX3_findWidening ∈ lw_tbl := List.mem_of_getElem? (i := 623) (by decide +kernel)
theorem mlX3_76 : Cond.methodLink RX3 76 yX3_rank ∈ lw_tbl := List.mem_of_getElem? (i := 630) (by decide +kernel)
theorem mlX3_79 : Cond.methodLink RX3 79 yX3_raiseOnce ∈ lw_tbl := List.mem_of_getElem? (i := 606) (by decide +kernel)
theorem mlX3_88 : Cond.methodLink RX3 88 yJ9_max_f86c9 ∈ lw_tbl := List.mem_of_getElem? (i := 629) (by decide +kernel)
theorem mlX3_93 : Cond.methodLink RX3 93 yX3_measureTo ∈ lw_tbl := List.mem_of_getElem? (i := 615) (by decide +kernel)
theorem mlX3_97 : Cond.methodLink RX3 97 yX3_nearestAfter ∈ lw_tbl := List.mem_of_getElem? (i := 619) (by decide +kernel)
theorem mlX4_1 : Cond.methodLink RX4 1 objectInit ∈ lw_tbl := List.mem_of_getElem? (i := 180) (by decide +kernel)
theorem mlX5_1 : Cond.methodLink RX5 1 objectInit ∈ lw_tbl := List.mem_of_getElem? (i := 530) (by decide +kernel)
theorem mlX6_1 : Cond.methodLink RX6 1 objectInit ∈ lw_tbl := List.mem_of_getElem? (i := 42) (by decide +kernel)
theorem mlX6_43 : Cond.methodLink RX6 43 yX0_init ∈ lw_tbl := List.mem_of_getElem? (i := 53) (by decide +kernel)
theorem mlX6_50 : Cond.methodLink RX6 50 yX3_init ∈ lw_tbl := List.mem_of_getElem? (i := 76) (by decide +kernel)
theorem mlX6_61 : Cond.methodLink RX6 61 yX2_init ∈ lw_tbl := List.mem_of_getElem? (i := 171) (by decide +kernel)
theorem mlX6_64 : Cond.methodLink RX6 64 yX6_findMember ∈ lw_tbl := List.mem_of_getElem? (i := 268) (by decide +kernel)
theorem mlX6_77 : Cond.methodLink RX6 77 yJ9_abs_067f4 ∈ lw_tbl := List.mem_of_getElem? (i := 272) (by decide +kernel)
theorem mlX6_88 : Cond.methodLink RX6 88 yX6_asBit ∈ lw_tbl := List.mem_of_getElem? (i := 276) (by decide +kernel)
theorem mlX6_109 : Cond.methodLink RX6 109 yX2_countedAt ∈ lw_tbl := List.mem_of_getElem? (i := 293) (by decide +kernel)
theorem mlX6_112 : Cond.methodLink RX6 112 yX2_lowAt ∈ lw_tbl := List.mem_of_getElem? (i := 307) (by decide +kernel)
theorem mlX6_115 : Cond.methodLink RX6 115 yX2_highAt ∈ lw_tbl := List.mem_of_getElem? (i := 320) (by decide +kernel)
theorem mlX6_121 : Cond.methodLink RX6 121 yX2_holds ∈ lw_tbl := List.mem_of_getElem? (i := 334) (by decide +kernel)
theorem mlX6_131 : Cond.methodLink RX6 131 yX2_howManyHeard ∈ lw_tbl := List.mem_of_getElem? (i := 340) (by decide +kernel)
theorem mlX6_135 : Cond.methodLink RX6 135 yX1_init ∈ lw_tbl := List.mem_of_getElem? (i := 357) (by decide +kernel)
theorem mlX6_138 : Cond.methodLink RX6 138 yX6_addLetter ∈ lw_tbl := List.mem_of_getElem? (i := 390) (by decide +kernel)
theorem mlX6_142 : Cond.methodLink RX6 142 yX6_findUnderWay ∈ lw_tbl := List.mem_of_getElem? (i := 398) (by decide +kernel)
theorem mlX6_156 : Cond.methodLink RX6 156 yX1_takeAnswer ∈ lw_tbl := List.mem_of_getElem? (i := 410) (by decide +kernel)
theorem mlX6_160 : Cond.methodLink RX6 160 yX1_bringBack ∈ lw_tbl := List.mem_of_getElem? (i := 416) (by decide +kernel)
theorem mlX6_177 : Cond.methodLink RX6 177 yX6_findLetter ∈ lw_tbl := List.mem_of_getElem? (i := 402) (by decide +kernel)
theorem mlX6_183 : Cond.methodLink RX6 183 yX2_hasHeardOf ∈ lw_tbl := List.mem_of_getElem? (i := 443) (by decide +kernel)
theorem mlX6_187 : Cond.methodLink RX6 187 yX2_heardLowAt ∈ lw_tbl := List.mem_of_getElem? (i := 444) (by decide +kernel)
theorem mlX6_191 : Cond.methodLink RX6 191 yX2_heardHighAt ∈ lw_tbl := List.mem_of_getElem? (i := 449) (by decide +kernel)
theorem mlX6_194 : Cond.methodLink RX6 194 yX6_gather ∈ lw_tbl := List.mem_of_getElem? (i := 457) (by decide +kernel)
theorem mlX6_198 : Cond.methodLink RX6 198 yX0_having ∈ lw_tbl := List.mem_of_getElem? (i := 469) (by decide +kernel)
theorem mlX6_205 : Cond.methodLink RX6 205 yX0_pieces ∈ lw_tbl := List.mem_of_getElem? (i := 477) (by decide +kernel)
theorem mlX6_209 : Cond.methodLink RX6 209 yX0_least ∈ lw_tbl := List.mem_of_getElem? (i := 486) (by decide +kernel)
theorem mlX6_213 : Cond.methodLink RX6 213 yX0_greatest ∈ lw_tbl := List.mem_of_getElem? (i := 491) (by decide +kernel)
theorem mlX6_216 : Cond.methodLink RX6 216 yX0_apartFrom ∈ lw_tbl := List.mem_of_getElem? (i := 495) (by decide +kernel)
theorem mlX6_220 : Cond.methodLink RX6 220 yX6_noteMeeting ∈ lw_tbl := List.mem_of_getElem? (i := 503) (by decide +kernel)
theorem mlX6_224 : Cond.methodLink RX6 224 yX2_forgetHeard ∈ lw_tbl := List.mem_of_getElem? (i := 507) (by decide +kernel)
theorem mlX6_231 : Cond.methodLink RX6 231 yX4_put ∈ lw_tbl := List.mem_of_getElem? (i := 511) (by decide +kernel)
theorem mlX6_240 : Cond.methodLink RX6 240 yX6_floorOf ∈ lw_tbl := List.mem_of_getElem? (i := 319) (by decide +kernel)
theorem mlX6_244 : Cond.methodLink RX6 244 yJ9_max_f86c9 ∈ lw_tbl := List.mem_of_getElem? (i := 516) (by decide +kernel)
theorem mlX6_247 : Cond.methodLink RX6 247 yJ9_min_f86c9 ∈ lw_tbl := List.mem_of_getElem? (i := 519) (by decide +kernel)
theorem mlX6_250 : Cond.methodLink RX6 250 yX5_init ∈ lw_tbl := List.mem_of_getElem? (i := 527) (by decide +kernel)
theorem mlX6_253 : Cond.methodLink RX6 253 yX6_findStamp ∈ lw_tbl := List.mem_of_getElem? (i := 552) (by decide +kernel)
theorem mlX6_267 : Cond.methodLink RX6 267 yX6_latestStamped ∈ lw_tbl := List.mem_of_getElem? (i := 565) (by decide +kernel)
theorem mlX6_275 : Cond.methodLink RX6 275 yX6_countFor ∈ lw_tbl := List.mem_of_getElem? (i := 569) (by decide +kernel)
theorem mlX6_282 : Cond.methodLink RX6 282 yX3_addEvent ∈ lw_tbl := List.mem_of_getElem? (i := 576) (by decide +kernel)
theorem mlX6_285 : Cond.methodLink RX6 285 yX3_hasEvent ∈ lw_tbl := List.mem_of_getElem? (i := 585) (by decide +kernel)
theorem mlX6_291 : Cond.methodLink RX6 291 yX3_addLink ∈ lw_tbl := List.mem_of_getElem? (i := 589) (by decide +kernel)
theorem mlX6_295 : Cond.methodLink RX6 295 yX3_settle ∈ lw_tbl := List.mem_of_getElem? (i := 598) (by decide +kernel)
theorem mlX6_315 : Cond.methodLink RX6 315 yX6_howManyUnderWay ∈ lw_tbl := List.mem_of_getElem? (i := 650) (by decide +kernel)
theorem mlX6_318 : Cond.methodLink RX6 318 yX1_isUnderWay ∈ lw_tbl := List.mem_of_getElem? (i := 406) (by decide +kernel)
theorem mlX6_322 : Cond.methodLink RX6 322 yX0_clear ∈ lw_tbl := List.mem_of_getElem? (i := 461) (by decide +kernel)
theorem mlX6_325 : Cond.methodLink RX6 325 yX0_add ∈ lw_tbl := List.mem_of_getElem? (i := 465) (by decide +kernel)
theorem mlX6_332 : Cond.methodLink RX6 332 yJ9_floorDiv_f86c9 ∈ lw_tbl := List.mem_of_getElem? (i := 300) (by decide +kernel)
theorem mlX6_335 : Cond.methodLink RX6 335 yX6_ceilOf ∈ lw_tbl := List.mem_of_getElem? (i := 331) (by decide +kernel)
theorem mlX7_1 : Cond.methodLink RX7 1 objectInit ∈ lw_tbl := List.mem_of_getElem? (i := 659) (by decide +kernel)
theorem mlX7_135 : Cond.methodLink RX7 135 yX7_floor ∈ lw_tbl := List.mem_of_getElem? (i := 862) (by decide +kernel)
theorem mlX7_143 : Cond.methodLink RX7 143 yX7_in ∈ lw_tbl := List.mem_of_getElem? (i := 823) (by decide +kernel)
theorem mlX7_163 : Cond.methodLink RX7 163 yX7_isMember ∈ lw_tbl := List.mem_of_getElem? (i := 839) (by decide +kernel)
theorem mlX7_173 : Cond.methodLink RX7 173 yX7_counterOf ∈ lw_tbl := List.mem_of_getElem? (i := 858) (by decide +kernel)
theorem mlX7_177 : Cond.methodLink RX7 177 yX7_ceil ∈ lw_tbl := List.mem_of_getElem? (i := 885) (by decide +kernel)
theorem mlX7_180 : Cond.methodLink RX7 180 yX7_atLeast ∈ lw_tbl := List.mem_of_getElem? (i := 873) (by decide +kernel)
theorem mlX7_184 : Cond.methodLink RX7 184 yX7_atMost ∈ lw_tbl := List.mem_of_getElem? (i := 881) (by decide +kernel)
theorem mlX7_187 : Cond.methodLink RX7 187 yX7_lowOf ∈ lw_tbl := List.mem_of_getElem? (i := 869) (by decide +kernel)
theorem mlX7_190 : Cond.methodLink RX7 190 yX7_highOf ∈ lw_tbl := List.mem_of_getElem? (i := 877) (by decide +kernel)
theorem mlX7_193 : Cond.methodLink RX7 193 yX7_heardMany ∈ lw_tbl := List.mem_of_getElem? (i := 888) (by decide +kernel)
theorem mlX7_200 : Cond.methodLink RX7 200 yX7_isUnderWay ∈ lw_tbl := List.mem_of_getElem? (i := 900) (by decide +kernel)
theorem mlX7_205 : Cond.methodLink RX7 205 yX7_heardLowOf ∈ lw_tbl := List.mem_of_getElem? (i := 921) (by decide +kernel)
theorem mlX7_209 : Cond.methodLink RX7 209 yX7_heardHighOf ∈ lw_tbl := List.mem_of_getElem? (i := 925) (by decide +kernel)
theorem mlX7_215 : Cond.methodLink RX7 215 yX7_gather ∈ lw_tbl := List.mem_of_getElem? (i := 933) (by decide +kernel)
theorem mlX7_219 : Cond.methodLink RX7 219 yX7_votesFor ∈ lw_tbl := List.mem_of_getElem? (i := 937) (by decide +kernel)
theorem mlX7_235 : Cond.methodLink RX7 235 yX7_findCouncil ∈ lw_tbl := List.mem_of_getElem? (i := 945) (by decide +kernel)
theorem mlX7_241 : Cond.methodLink RX7 241 yX7_isStamp ∈ lw_tbl := List.mem_of_getElem? (i := 965) (by decide +kernel)
theorem mlX7_249 : Cond.methodLink RX7 249 yX7_isEvent ∈ lw_tbl := List.mem_of_getElem? (i := 986) (by decide +kernel)
theorem mlX7_255 : Cond.methodLink RX7 255 yX7_findLongest ∈ lw_tbl := List.mem_of_getElem? (i := 994) (by decide +kernel)
theorem mlX7_259 : Cond.methodLink RX7 259 yX7_mend ∈ lw_tbl := List.mem_of_getElem? (i := 1006) (by decide +kernel)
theorem mlX7_263 : Cond.methodLink RX7 263 yX7_findTimes ∈ lw_tbl := List.mem_of_getElem? (i := 1002) (by decide +kernel)
theorem mlX7_266 : Cond.methodLink RX7 266 yX7_ringFrom ∈ lw_tbl := List.mem_of_getElem? (i := 1015) (by decide +kernel)
theorem nlX1_63 : (RX1, 63, yX6_atMost, RX6) ∈ nW := by decide +kernel
theorem nlX2_36 : (RX2, 36, yX4_init, RX6) ∈ nW := by decide +kernel
theorem nlX2_52 : (RX2, 52, yX6_floorOf, RX6) ∈ nW := by decide +kernel
theorem nlX3_84 : (RX3, 84, yX6_ceilOf, RX6) ∈ nW := by decide +kernel
theorem nlX4_23 : (RX4, 23, yX6_atLeast, RX6) ∈ nW := by decide +kernel
theorem nlX4_29 : (RX4, 29, yX6_atMost, RX6) ∈ nW := by decide +kernel
theorem cnL_27 : Cond.constantLong RL 27 (4294967295) ∈ lw_tbl := List.mem_of_getElem? (i := 1023) (by decide +kernel)
theorem cnX0_26 : Cond.constantLong RX0 26 (-9000000000000000000) ∈ lw_tbl := List.mem_of_getElem? (i := 490) (by decide +kernel)
theorem cnX2_81 : Cond.constantLong RX2 81 (-9000000000000000000) ∈ lw_tbl := List.mem_of_getElem? (i := 448) (by decide +kernel)
theorem cnX3_44 : Cond.constantLong RX3 44 (-9000000000000000000) ∈ lw_tbl := List.mem_of_getElem? (i := 580) (by decide +kernel)
theorem cnX3_64 : Cond.constantLong RX3 64 (-1) ∈ lw_tbl := List.mem_of_getElem? (i := 610) (by decide +kernel)
theorem cnX3_82 : Cond.constantLong RX3 82 (2) ∈ lw_tbl := List.mem_of_getElem? (i := 627) (by decide +kernel)
theorem cnX6_55 : Cond.constant RX6 55 (1000000) ∈ lw_tbl := List.mem_of_getElem? (i := 162) (by decide +kernel)
theorem cnX6_56 : Cond.constantLong RX6 56 (1000000000) ∈ lw_tbl := List.mem_of_getElem? (i := 163) (by decide +kernel)
theorem cnX6_58 : Cond.constantLong RX6 58 (-9000000000000000000) ∈ lw_tbl := List.mem_of_getElem? (i := 164) (by decide +kernel)
theorem cnX6_60 : Cond.constant RX6 60 (100000) ∈ lw_tbl := List.mem_of_getElem? (i := 169) (by decide +kernel)
theorem cnX6_83 : Cond.constantLong RX6 83 (1000) ∈ lw_tbl := List.mem_of_getElem? (i := 275) (by decide +kernel)
theorem cnX6_95 : Cond.constantLong RX6 95 (-1000000000000) ∈ lw_tbl := List.mem_of_getElem? (i := 283) (by decide +kernel)
theorem cnX6_97 : Cond.constantLong RX6 97 (1000000000000) ∈ lw_tbl := List.mem_of_getElem? (i := 284) (by decide +kernel)
theorem cnX6_163 : Cond.constantLong RX6 163 (2) ∈ lw_tbl := List.mem_of_getElem? (i := 426) (by decide +kernel)
theorem cnX6_265 : Cond.constantLong RX6 265 (-1) ∈ lw_tbl := List.mem_of_getElem? (i := 560) (by decide +kernel)
theorem cnX7_147 : Cond.constantLong RX7 147 (1000000) ∈ lw_tbl := List.mem_of_getElem? (i := 822) (by decide +kernel)
theorem cnX7_153 : Cond.constantLong RX7 153 (1000000000) ∈ lw_tbl := List.mem_of_getElem? (i := 826) (by decide +kernel)
theorem cnX7_155 : Cond.constantLong RX7 155 (-9000000000000000000) ∈ lw_tbl := List.mem_of_getElem? (i := 827) (by decide +kernel)
theorem cnX7_157 : Cond.constantLong RX7 157 (4) ∈ lw_tbl := List.mem_of_getElem? (i := 832) (by decide +kernel)
theorem cnX7_159 : Cond.constantLong RX7 159 (200) ∈ lw_tbl := List.mem_of_getElem? (i := 833) (by decide +kernel)
theorem cnX7_161 : Cond.constantLong RX7 161 (100000) ∈ lw_tbl := List.mem_of_getElem? (i := 834) (by decide +kernel)
theorem cnX7_167 : Cond.constantLong RX7 167 (1000) ∈ lw_tbl := List.mem_of_getElem? (i := 843) (by decide +kernel)
theorem cnX7_169 : Cond.constantLong RX7 169 (-1000000000000) ∈ lw_tbl := List.mem_of_getElem? (i := 848) (by decide +kernel)
theorem cnX7_171 : Cond.constantLong RX7 171 (1000000000000) ∈ lw_tbl := List.mem_of_getElem? (i := 849) (by decide +kernel)
theorem cnX7_203 : Cond.constantLong RX7 203 (2) ∈ lw_tbl := List.mem_of_getElem? (i := 904) (by decide +kernel)
theorem cnX7_244 : Cond.constantLong RX7 244 (-1) ∈ lw_tbl := List.mem_of_getElem? (i := 973) (by decide +kernel)
theorem clL_7 : Cond.classLink RL 7 RX6 ∈ lw_tbl := List.mem_of_getElem? (i := 37) (by decide +kernel)
theorem clL_10 : Cond.classLink RL 10 RX7 ∈ lw_tbl := List.mem_of_getElem? (i := 654) (by decide +kernel)
theorem clX2_34 : Cond.classLink RX2 34 RX4 ∈ lw_tbl := List.mem_of_getElem? (i := 175) (by decide +kernel)
theorem clX6_13 : Cond.classLink RX6 13 RX2 ∈ lw_tbl := List.mem_of_getElem? (i := 45) (by decide +kernel)
theorem clX6_23 : Cond.classLink RX6 23 RX1 ∈ lw_tbl := List.mem_of_getElem? (i := 47) (by decide +kernel)
theorem clX6_32 : Cond.classLink RX6 32 RX5 ∈ lw_tbl := List.mem_of_getElem? (i := 49) (by decide +kernel)
theorem clX6_41 : Cond.classLink RX6 41 RX0 ∈ lw_tbl := List.mem_of_getElem? (i := 51) (by decide +kernel)
theorem clX6_48 : Cond.classLink RX6 48 RX3 ∈ lw_tbl := List.mem_of_getElem? (i := 74) (by decide +kernel)
theorem nsX0 : Cond.instantiable RX0 4 ∈ lw_tbl := List.mem_of_getElem? (i := 52) (by decide +kernel)
theorem nzX0 : Cond.initialized RX0 ∈ lw_tbl := List.mem_of_getElem? (i := 29) (by decide +kernel)
theorem nsX1 : Cond.instantiable RX1 7 ∈ lw_tbl := List.mem_of_getElem? (i := 356) (by decide +kernel)
theorem nzX1 : Cond.initialized RX1 ∈ lw_tbl := List.mem_of_getElem? (i := 35) (by decide +kernel)
theorem nsX2 : Cond.instantiable RX2 16 ∈ lw_tbl := List.mem_of_getElem? (i := 170) (by decide +kernel)
theorem nzX2 : Cond.initialized RX2 ∈ lw_tbl := List.mem_of_getElem? (i := 32) (by decide +kernel)
theorem nsX3 : Cond.instantiable RX3 14 ∈ lw_tbl := List.mem_of_getElem? (i := 75) (by decide +kernel)
theorem nzX3 : Cond.initialized RX3 ∈ lw_tbl := List.mem_of_getElem? (i := 30) (by decide +kernel)
theorem nsX4 : Cond.instantiable RX4 4 ∈ lw_tbl := List.mem_of_getElem? (i := 176) (by decide +kernel)
theorem nzX4 : Cond.initialized RX4 ∈ lw_tbl := List.mem_of_getElem? (i := 33) (by decide +kernel)
theorem nsX5 : Cond.instantiable RX5 4 ∈ lw_tbl := List.mem_of_getElem? (i := 526) (by decide +kernel)
theorem nzX5 : Cond.initialized RX5 ∈ lw_tbl := List.mem_of_getElem? (i := 36) (by decide +kernel)
theorem nsX6 : Cond.instantiable RX6 9 ∈ lw_tbl := List.mem_of_getElem? (i := 38) (by decide +kernel)
theorem nzX6 : Cond.initialized RX6 ∈ lw_tbl := List.mem_of_getElem? (i := 28) (by decide +kernel)
theorem nsX7 : Cond.instantiable RX7 52 ∈ lw_tbl := List.mem_of_getElem? (i := 655) (by decide +kernel)
theorem nzX7 : Cond.initialized RX7 ∈ lw_tbl := List.mem_of_getElem? (i := 31) (by decide +kernel)
theorem stJ9_abs_067f4 : Cond.static yJ9_abs_067f4 ∈ lw_tbl := List.mem_of_getElem? (i := 273) (by decide +kernel)
theorem stJ9_floorDiv_f86c9 : Cond.static yJ9_floorDiv_f86c9 ∈ lw_tbl := List.mem_of_getElem? (i := 301) (by decide +kernel)
theorem stJ9_max_f86c9 : Cond.static yJ9_max_f86c9 ∈ lw_tbl := List.mem_of_getElem? (i := 517) (by decide +kernel)
theorem stJ9_min_f86c9 : Cond.static yJ9_min_f86c9 ∈ lw_tbl := List.mem_of_getElem? (i := 520) (by decide +kernel)
theorem stX6_asBit : Cond.static yX6_asBit ∈ lw_tbl := List.mem_of_getElem? (i := 277) (by decide +kernel)
theorem stX6_atLeast : Cond.static yX6_atLeast ∈ lw_tbl := List.mem_of_getElem? (i := 317) (by decide +kernel)
theorem stX6_atMost : Cond.static yX6_atMost ∈ lw_tbl := List.mem_of_getElem? (i := 329) (by decide +kernel)
theorem stX6_ceilOf : Cond.static yX6_ceilOf ∈ lw_tbl := List.mem_of_getElem? (i := 332) (by decide +kernel)
theorem stX6_countFor : Cond.static yX6_countFor ∈ lw_tbl := List.mem_of_getElem? (i := 570) (by decide +kernel)
theorem stX6_floorOf : Cond.static yX6_floorOf ∈ lw_tbl := List.mem_of_getElem? (i := 298) (by decide +kernel)
theorem stX7_ceil : Cond.static yX7_ceil ∈ lw_tbl := List.mem_of_getElem? (i := 886) (by decide +kernel)
theorem stX7_floor : Cond.static yX7_floor ∈ lw_tbl := List.mem_of_getElem? (i := 863) (by decide +kernel)
theorem stX7_in : Cond.static yX7_in ∈ lw_tbl := List.mem_of_getElem? (i := 824) (by decide +kernel)
theorem imX0_add : Cond.instanceMethod yX0_add ∈ lw_tbl := List.mem_of_getElem? (i := 466) (by decide +kernel)
theorem imX0_apartFrom : Cond.instanceMethod yX0_apartFrom ∈ lw_tbl := List.mem_of_getElem? (i := 496) (by decide +kernel)
theorem imX0_beganBefore : Cond.instanceMethod yX0_beganBefore ∈ lw_tbl := List.mem_of_getElem? (i := 483) (by decide +kernel)
theorem imX0_clear : Cond.instanceMethod yX0_clear ∈ lw_tbl := List.mem_of_getElem? (i := 462) (by decide +kernel)
theorem imX0_greatest : Cond.instanceMethod yX0_greatest ∈ lw_tbl := List.mem_of_getElem? (i := 492) (by decide +kernel)
theorem imX0_having : Cond.instanceMethod yX0_having ∈ lw_tbl := List.mem_of_getElem? (i := 470) (by decide +kernel)
theorem imX0_init : Cond.instanceMethod yX0_init ∈ lw_tbl := List.mem_of_getElem? (i := 54) (by decide +kernel)
theorem imX0_least : Cond.instanceMethod yX0_least ∈ lw_tbl := List.mem_of_getElem? (i := 487) (by decide +kernel)
theorem imX0_pieces : Cond.instanceMethod yX0_pieces ∈ lw_tbl := List.mem_of_getElem? (i := 478) (by decide +kernel)
theorem imX1_bringBack : Cond.instanceMethod yX1_bringBack ∈ lw_tbl := List.mem_of_getElem? (i := 417) (by decide +kernel)
theorem imX1_init : Cond.instanceMethod yX1_init ∈ lw_tbl := List.mem_of_getElem? (i := 358) (by decide +kernel)
theorem imX1_isUnderWay : Cond.instanceMethod yX1_isUnderWay ∈ lw_tbl := List.mem_of_getElem? (i := 407) (by decide +kernel)
theorem imX1_takeAnswer : Cond.instanceMethod yX1_takeAnswer ∈ lw_tbl := List.mem_of_getElem? (i := 411) (by decide +kernel)
theorem imX2_countedAt : Cond.instanceMethod yX2_countedAt ∈ lw_tbl := List.mem_of_getElem? (i := 294) (by decide +kernel)
theorem imX2_forgetHeard : Cond.instanceMethod yX2_forgetHeard ∈ lw_tbl := List.mem_of_getElem? (i := 508) (by decide +kernel)
theorem imX2_hasHeardOf : Cond.instanceMethod yX2_hasHeardOf ∈ lw_tbl := List.mem_of_getElem? (i := 345) (by decide +kernel)
theorem imX2_hear : Cond.instanceMethod yX2_hear ∈ lw_tbl := List.mem_of_getElem? (i := 423) (by decide +kernel)
theorem imX2_heardHighAt : Cond.instanceMethod yX2_heardHighAt ∈ lw_tbl := List.mem_of_getElem? (i := 450) (by decide +kernel)
theorem imX2_heardLowAt : Cond.instanceMethod yX2_heardLowAt ∈ lw_tbl := List.mem_of_getElem? (i := 445) (by decide +kernel)
theorem imX2_highAt : Cond.instanceMethod yX2_highAt ∈ lw_tbl := List.mem_of_getElem? (i := 321) (by decide +kernel)
theorem imX2_holds : Cond.instanceMethod yX2_holds ∈ lw_tbl := List.mem_of_getElem? (i := 335) (by decide +kernel)
theorem imX2_howManyHeard : Cond.instanceMethod yX2_howManyHeard ∈ lw_tbl := List.mem_of_getElem? (i := 341) (by decide +kernel)
theorem imX2_init : Cond.instanceMethod yX2_init ∈ lw_tbl := List.mem_of_getElem? (i := 172) (by decide +kernel)
theorem imX2_lowAt : Cond.instanceMethod yX2_lowAt ∈ lw_tbl := List.mem_of_getElem? (i := 308) (by decide +kernel)
theorem imX2_spanOf : Cond.instanceMethod yX2_spanOf ∈ lw_tbl := List.mem_of_getElem? (i := 349) (by decide +kernel)
theorem imX3_addEvent : Cond.instanceMethod yX3_addEvent ∈ lw_tbl := List.mem_of_getElem? (i := 577) (by decide +kernel)
theorem imX3_addLink : Cond.instanceMethod yX3_addLink ∈ lw_tbl := List.mem_of_getElem? (i := 590) (by decide +kernel)
theorem imX3_findEarliest : Cond.instanceMethod yX3_findEarliest ∈ lw_tbl := List.mem_of_getElem? (i := 603) (by decide +kernel)
theorem imX3_findRing : Cond.instanceMethod yX3_findRing ∈ lw_tbl := List.mem_of_getElem? (i := 612) (by decide +kernel)
theorem imX3_findWidening : Cond.instanceMethod yX3_findWidening ∈ lw_tbl := List.mem_of_getElem? (i := 624) (by decide +kernel)
theorem imX3_hasEvent : Cond.instanceMethod yX3_hasEvent ∈ lw_tbl := List.mem_of_getElem? (i := 586) (by decide +kernel)
theorem imX3_init : Cond.instanceMethod yX3_init ∈ lw_tbl := List.mem_of_getElem? (i := 77) (by decide +kernel)
theorem imX3_measureTo : Cond.instanceMethod yX3_measureTo ∈ lw_tbl := List.mem_of_getElem? (i := 616) (by decide +kernel)
theorem imX3_nearestAfter : Cond.instanceMethod yX3_nearestAfter ∈ lw_tbl := List.mem_of_getElem? (i := 620) (by decide +kernel)
theorem imX3_raiseOnce : Cond.instanceMethod yX3_raiseOnce ∈ lw_tbl := List.mem_of_getElem? (i := 607) (by decide +kernel)
theorem imX3_rank : Cond.instanceMethod yX3_rank ∈ lw_tbl := List.mem_of_getElem? (i := 631) (by decide +kernel)
theorem imX3_settle : Cond.instanceMethod yX3_settle ∈ lw_tbl := List.mem_of_getElem? (i := 599) (by decide +kernel)
theorem imX4_highWhen : Cond.instanceMethod yX4_highWhen ∈ lw_tbl := List.mem_of_getElem? (i := 325) (by decide +kernel)
theorem imX4_init : Cond.instanceMethod yX4_init ∈ lw_tbl := List.mem_of_getElem? (i := 178) (by decide +kernel)
theorem imX4_lowWhen : Cond.instanceMethod yX4_lowWhen ∈ lw_tbl := List.mem_of_getElem? (i := 313) (by decide +kernel)
theorem imX4_put : Cond.instanceMethod yX4_put ∈ lw_tbl := List.mem_of_getElem? (i := 198) (by decide +kernel)
theorem imX5_init : Cond.instanceMethod yX5_init ∈ lw_tbl := List.mem_of_getElem? (i := 528) (by decide +kernel)
theorem imX6_addLetter : Cond.instanceMethod yX6_addLetter ∈ lw_tbl := List.mem_of_getElem? (i := 392) (by decide +kernel)
theorem imX6_ahead : Cond.instanceMethod yX6_ahead ∈ lw_tbl := List.mem_of_getElem? (i := 557) (by decide +kernel)
theorem imX6_ask : Cond.instanceMethod yX6_ask ∈ lw_tbl := List.mem_of_getElem? (i := 353) (by decide +kernel)
theorem imX6_council : Cond.instanceMethod yX6_council ∈ lw_tbl := List.mem_of_getElem? (i := 474) (by decide +kernel)
theorem imX6_count : Cond.instanceMethod yX6_count ∈ lw_tbl := List.mem_of_getElem? (i := 647) (by decide +kernel)
theorem imX6_counter : Cond.instanceMethod yX6_counter ∈ lw_tbl := List.mem_of_getElem? (i := 290) (by decide +kernel)
theorem imX6_deliver : Cond.instanceMethod yX6_deliver ∈ lw_tbl := List.mem_of_getElem? (i := 395) (by decide +kernel)
theorem imX6_event : Cond.instanceMethod yX6_event ∈ lw_tbl := List.mem_of_getElem? (i := 573) (by decide +kernel)
theorem imX6_findLetter : Cond.instanceMethod yX6_findLetter ∈ lw_tbl := List.mem_of_getElem? (i := 404) (by decide +kernel)
theorem imX6_findMember : Cond.instanceMethod yX6_findMember ∈ lw_tbl := List.mem_of_getElem? (i := 270) (by decide +kernel)
theorem imX6_findStamp : Cond.instanceMethod yX6_findStamp ∈ lw_tbl := List.mem_of_getElem? (i := 554) (by decide +kernel)
theorem imX6_findUnderWay : Cond.instanceMethod yX6_findUnderWay ∈ lw_tbl := List.mem_of_getElem? (i := 400) (by decide +kernel)
theorem imX6_gather : Cond.instanceMethod yX6_gather ∈ lw_tbl := List.mem_of_getElem? (i := 459) (by decide +kernel)
theorem imX6_given : Cond.instanceMethod yX6_given ∈ lw_tbl := List.mem_of_getElem? (i := 549) (by decide +kernel)
theorem imX6_go : Cond.instanceMethod yX6_go ∈ lw_tbl := List.mem_of_getElem? (i := 159) (by decide +kernel)
theorem imX6_heard : Cond.instanceMethod yX6_heard ∈ lw_tbl := List.mem_of_getElem? (i := 440) (by decide +kernel)
theorem imX6_howManyUnderWay : Cond.instanceMethod yX6_howManyUnderWay ∈ lw_tbl := List.mem_of_getElem? (i := 652) (by decide +kernel)
theorem imX6_init : Cond.instanceMethod yX6_init ∈ lw_tbl := List.mem_of_getElem? (i := 40) (by decide +kernel)
theorem imX6_latestStamped : Cond.instanceMethod yX6_latestStamped ∈ lw_tbl := List.mem_of_getElem? (i := 567) (by decide +kernel)
theorem imX6_lead : Cond.instanceMethod yX6_lead ∈ lw_tbl := List.mem_of_getElem? (i := 513) (by decide +kernel)
theorem imX6_letter : Cond.instanceMethod yX6_letter ∈ lw_tbl := List.mem_of_getElem? (i := 436) (by decide +kernel)
theorem imX6_lie : Cond.instanceMethod yX6_lie ∈ lw_tbl := List.mem_of_getElem? (i := 280) (by decide +kernel)
theorem imX6_link : Cond.instanceMethod yX6_link ∈ lw_tbl := List.mem_of_getElem? (i := 582) (by decide +kernel)
theorem imX6_lose : Cond.instanceMethod yX6_lose ∈ lw_tbl := List.mem_of_getElem? (i := 428) (by decide +kernel)
theorem imX6_meet : Cond.instanceMethod yX6_meet ∈ lw_tbl := List.mem_of_getElem? (i := 500) (by decide +kernel)
theorem imX6_member : Cond.instanceMethod yX6_member ∈ lw_tbl := List.mem_of_getElem? (i := 166) (by decide +kernel)
theorem imX6_mend : Cond.instanceMethod yX6_mend ∈ lw_tbl := List.mem_of_getElem? (i := 595) (by decide +kernel)
theorem imX6_noteMeeting : Cond.instanceMethod yX6_noteMeeting ∈ lw_tbl := List.mem_of_getElem? (i := 505) (by decide +kernel)
theorem imX6_of : Cond.instanceMethod yX6_of ∈ lw_tbl := List.mem_of_getElem? (i := 304) (by decide +kernel)
theorem imX6_order : Cond.instanceMethod yX6_order ∈ lw_tbl := List.mem_of_getElem? (i := 635) (by decide +kernel)
theorem imX6_rate : Cond.instanceMethod yX6_rate ∈ lw_tbl := List.mem_of_getElem? (i := 265) (by decide +kernel)
theorem imX6_rest : Cond.instanceMethod yX6_rest ∈ lw_tbl := List.mem_of_getElem? (i := 286) (by decide +kernel)
theorem imX6_ring : Cond.instanceMethod yX6_ring ∈ lw_tbl := List.mem_of_getElem? (i := 643) (by decide +kernel)
theorem imX6_stamp : Cond.instanceMethod yX6_stamp ∈ lw_tbl := List.mem_of_getElem? (i := 523) (by decide +kernel)
theorem imX6_time : Cond.instanceMethod yX6_time ∈ lw_tbl := List.mem_of_getElem? (i := 639) (by decide +kernel)
theorem imX6_twice : Cond.instanceMethod yX6_twice ∈ lw_tbl := List.mem_of_getElem? (i := 432) (by decide +kernel)
theorem imX6_votes : Cond.instanceMethod yX6_votes ∈ lw_tbl := List.mem_of_getElem? (i := 454) (by decide +kernel)
theorem imX6_wait : Cond.instanceMethod yX6_wait ∈ lw_tbl := List.mem_of_getElem? (i := 562) (by decide +kernel)
theorem imX7_ahead : Cond.instanceMethod yX7_ahead ∈ lw_tbl := List.mem_of_getElem? (i := 970) (by decide +kernel)
theorem imX7_ask : Cond.instanceMethod yX7_ask ∈ lw_tbl := List.mem_of_getElem? (i := 893) (by decide +kernel)
theorem imX7_atLeast : Cond.instanceMethod yX7_atLeast ∈ lw_tbl := List.mem_of_getElem? (i := 875) (by decide +kernel)
theorem imX7_atMost : Cond.instanceMethod yX7_atMost ∈ lw_tbl := List.mem_of_getElem? (i := 883) (by decide +kernel)
theorem imX7_council : Cond.instanceMethod yX7_council ∈ lw_tbl := List.mem_of_getElem? (i := 942) (by decide +kernel)
theorem imX7_count : Cond.instanceMethod yX7_count ∈ lw_tbl := List.mem_of_getElem? (i := 1020) (by decide +kernel)
theorem imX7_counter : Cond.instanceMethod yX7_counter ∈ lw_tbl := List.mem_of_getElem? (i := 855) (by decide +kernel)
theorem imX7_counterOf : Cond.instanceMethod yX7_counterOf ∈ lw_tbl := List.mem_of_getElem? (i := 860) (by decide +kernel)
theorem imX7_deliver : Cond.instanceMethod yX7_deliver ∈ lw_tbl := List.mem_of_getElem? (i := 897) (by decide +kernel)
theorem imX7_event : Cond.instanceMethod yX7_event ∈ lw_tbl := List.mem_of_getElem? (i := 979) (by decide +kernel)
theorem imX7_findCouncil : Cond.instanceMethod yX7_findCouncil ∈ lw_tbl := List.mem_of_getElem? (i := 947) (by decide +kernel)
theorem imX7_findLongest : Cond.instanceMethod yX7_findLongest ∈ lw_tbl := List.mem_of_getElem? (i := 996) (by decide +kernel)
theorem imX7_findTimes : Cond.instanceMethod yX7_findTimes ∈ lw_tbl := List.mem_of_getElem? (i := 1004) (by decide +kernel)
theorem imX7_gather : Cond.instanceMethod yX7_gather ∈ lw_tbl := List.mem_of_getElem? (i := 935) (by decide +kernel)
theorem imX7_given : Cond.instanceMethod yX7_given ∈ lw_tbl := List.mem_of_getElem? (i := 962) (by decide +kernel)
theorem imX7_go : Cond.instanceMethod yX7_go ∈ lw_tbl := List.mem_of_getElem? (i := 819) (by decide +kernel)
theorem imX7_heard : Cond.instanceMethod yX7_heard ∈ lw_tbl := List.mem_of_getElem? (i := 918) (by decide +kernel)
theorem imX7_heardHighOf : Cond.instanceMethod yX7_heardHighOf ∈ lw_tbl := List.mem_of_getElem? (i := 927) (by decide +kernel)
theorem imX7_heardLowOf : Cond.instanceMethod yX7_heardLowOf ∈ lw_tbl := List.mem_of_getElem? (i := 923) (by decide +kernel)
theorem imX7_heardMany : Cond.instanceMethod yX7_heardMany ∈ lw_tbl := List.mem_of_getElem? (i := 890) (by decide +kernel)
theorem imX7_highOf : Cond.instanceMethod yX7_highOf ∈ lw_tbl := List.mem_of_getElem? (i := 879) (by decide +kernel)
theorem imX7_init : Cond.instanceMethod yX7_init ∈ lw_tbl := List.mem_of_getElem? (i := 657) (by decide +kernel)
theorem imX7_isEvent : Cond.instanceMethod yX7_isEvent ∈ lw_tbl := List.mem_of_getElem? (i := 988) (by decide +kernel)
theorem imX7_isMember : Cond.instanceMethod yX7_isMember ∈ lw_tbl := List.mem_of_getElem? (i := 841) (by decide +kernel)
theorem imX7_isStamp : Cond.instanceMethod yX7_isStamp ∈ lw_tbl := List.mem_of_getElem? (i := 967) (by decide +kernel)
theorem imX7_isUnderWay : Cond.instanceMethod yX7_isUnderWay ∈ lw_tbl := List.mem_of_getElem? (i := 902) (by decide +kernel)
theorem imX7_lead : Cond.instanceMethod yX7_lead ∈ lw_tbl := List.mem_of_getElem? (i := 954) (by decide +kernel)
theorem imX7_letter : Cond.instanceMethod yX7_letter ∈ lw_tbl := List.mem_of_getElem? (i := 914) (by decide +kernel)
theorem imX7_lie : Cond.instanceMethod yX7_lie ∈ lw_tbl := List.mem_of_getElem? (i := 845) (by decide +kernel)
theorem imX7_link : Cond.instanceMethod yX7_link ∈ lw_tbl := List.mem_of_getElem? (i := 983) (by decide +kernel)
theorem imX7_lose : Cond.instanceMethod yX7_lose ∈ lw_tbl := List.mem_of_getElem? (i := 906) (by decide +kernel)
theorem imX7_lowOf : Cond.instanceMethod yX7_lowOf ∈ lw_tbl := List.mem_of_getElem? (i := 871) (by decide +kernel)
theorem imX7_meet : Cond.instanceMethod yX7_meet ∈ lw_tbl := List.mem_of_getElem? (i := 950) (by decide +kernel)
theorem imX7_member : Cond.instanceMethod yX7_member ∈ lw_tbl := List.mem_of_getElem? (i := 829) (by decide +kernel)
theorem imX7_mend : Cond.instanceMethod yX7_mend ∈ lw_tbl := List.mem_of_getElem? (i := 991) (by decide +kernel)
theorem imX7_of : Cond.instanceMethod yX7_of ∈ lw_tbl := List.mem_of_getElem? (i := 866) (by decide +kernel)
theorem imX7_order : Cond.instanceMethod yX7_order ∈ lw_tbl := List.mem_of_getElem? (i := 999) (by decide +kernel)
theorem imX7_rate : Cond.instanceMethod yX7_rate ∈ lw_tbl := List.mem_of_getElem? (i := 836) (by decide +kernel)
theorem imX7_rest : Cond.instanceMethod yX7_rest ∈ lw_tbl := List.mem_of_getElem? (i := 851) (by decide +kernel)
theorem imX7_ring : Cond.instanceMethod yX7_ring ∈ lw_tbl := List.mem_of_getElem? (i := 1012) (by decide +kernel)
theorem imX7_ringFrom : Cond.instanceMethod yX7_ringFrom ∈ lw_tbl := List.mem_of_getElem? (i := 1017) (by decide +kernel)
theorem imX7_stamp : Cond.instanceMethod yX7_stamp ∈ lw_tbl := List.mem_of_getElem? (i := 958) (by decide +kernel)
theorem imX7_time : Cond.instanceMethod yX7_time ∈ lw_tbl := List.mem_of_getElem? (i := 1008) (by decide +kernel)
theorem imX7_twice : Cond.instanceMethod yX7_twice ∈ lw_tbl := List.mem_of_getElem? (i := 910) (by decide +kernel)
theorem imX7_votes : Cond.instanceMethod yX7_votes ∈ lw_tbl := List.mem_of_getElem? (i := 930) (by decide +kernel)
theorem imX7_votesFor : Cond.instanceMethod yX7_votesFor ∈ lw_tbl := List.mem_of_getElem? (i := 939) (by decide +kernel)
theorem imX7_wait : Cond.instanceMethod yX7_wait ∈ lw_tbl := List.mem_of_getElem? (i := 975) (by decide +kernel)
theorem seX0_add : Cond.selects yX0_add.cls yX0_add yX0_add ∈ lw_tbl := List.mem_of_getElem? (i := 467) (by decide +kernel)
theorem seX0_apartFrom : Cond.selects yX0_apartFrom.cls yX0_apartFrom yX0_apartFrom ∈ lw_tbl := List.mem_of_getElem? (i := 497) (by decide +kernel)
theorem seX0_beganBefore : Cond.selects yX0_beganBefore.cls yX0_beganBefore yX0_beganBefore ∈ lw_tbl := List.mem_of_getElem? (i := 484) (by decide +kernel)
theorem seX0_clear : Cond.selects yX0_clear.cls yX0_clear yX0_clear ∈ lw_tbl := List.mem_of_getElem? (i := 463) (by decide +kernel)
theorem seX0_greatest : Cond.selects yX0_greatest.cls yX0_greatest yX0_greatest ∈ lw_tbl := List.mem_of_getElem? (i := 493) (by decide +kernel)
theorem seX0_having : Cond.selects yX0_having.cls yX0_having yX0_having ∈ lw_tbl := List.mem_of_getElem? (i := 471) (by decide +kernel)
theorem seX0_least : Cond.selects yX0_least.cls yX0_least yX0_least ∈ lw_tbl := List.mem_of_getElem? (i := 488) (by decide +kernel)
theorem seX0_pieces : Cond.selects yX0_pieces.cls yX0_pieces yX0_pieces ∈ lw_tbl := List.mem_of_getElem? (i := 479) (by decide +kernel)
theorem seX1_bringBack : Cond.selects yX1_bringBack.cls yX1_bringBack yX1_bringBack ∈ lw_tbl := List.mem_of_getElem? (i := 418) (by decide +kernel)
theorem seX1_isUnderWay : Cond.selects yX1_isUnderWay.cls yX1_isUnderWay yX1_isUnderWay ∈ lw_tbl := List.mem_of_getElem? (i := 408) (by decide +kernel)
theorem seX1_takeAnswer : Cond.selects yX1_takeAnswer.cls yX1_takeAnswer yX1_takeAnswer ∈ lw_tbl := List.mem_of_getElem? (i := 412) (by decide +kernel)
theorem seX2_countedAt : Cond.selects yX2_countedAt.cls yX2_countedAt yX2_countedAt ∈ lw_tbl := List.mem_of_getElem? (i := 295) (by decide +kernel)
theorem seX2_forgetHeard : Cond.selects yX2_forgetHeard.cls yX2_forgetHeard yX2_forgetHeard ∈ lw_tbl := List.mem_of_getElem? (i := 509) (by decide +kernel)
theorem seX2_hasHeardOf : Cond.selects yX2_hasHeardOf.cls yX2_hasHeardOf yX2_hasHeardOf ∈ lw_tbl := List.mem_of_getElem? (i := 346) (by decide +kernel)
theorem seX2_hear : Cond.selects yX2_hear.cls yX2_hear yX2_hear ∈ lw_tbl := List.mem_of_getElem? (i := 424) (by decide +kernel)
theorem seX2_heardHighAt : Cond.selects yX2_heardHighAt.cls yX2_heardHighAt yX2_heardHighAt ∈ lw_tbl := List.mem_of_getElem? (i := 451) (by decide +kernel)
theorem seX2_heardLowAt : Cond.selects yX2_heardLowAt.cls yX2_heardLowAt yX2_heardLowAt ∈ lw_tbl := List.mem_of_getElem? (i := 446) (by decide +kernel)
theorem seX2_highAt : Cond.selects yX2_highAt.cls yX2_highAt yX2_highAt ∈ lw_tbl := List.mem_of_getElem? (i := 322) (by decide +kernel)
theorem seX2_holds : Cond.selects yX2_holds.cls yX2_holds yX2_holds ∈ lw_tbl := List.mem_of_getElem? (i := 336) (by decide +kernel)
theorem seX2_howManyHeard : Cond.selects yX2_howManyHeard.cls yX2_howManyHeard yX2_howManyHeard ∈ lw_tbl := List.mem_of_getElem? (i := 342) (by decide +kernel)
theorem seX2_lowAt : Cond.selects yX2_lowAt.cls yX2_lowAt yX2_lowAt ∈ lw_tbl := List.mem_of_getElem? (i := 309) (by decide +kernel)
theorem seX2_spanOf : Cond.selects yX2_spanOf.cls yX2_spanOf yX2_spanOf ∈ lw_tbl := List.mem_of_getElem? (i := 350) (by decide +kernel)
theorem seX3_addEvent : Cond.selects yX3_addEvent.cls yX3_addEvent yX3_addEvent ∈ lw_tbl := List.mem_of_getElem? (i := 578) (by decide +kernel)
theorem seX3_addLink : Cond.selects yX3_addLink.cls yX3_addLink yX3_addLink ∈ lw_tbl := List.mem_of_getElem? (i := 591) (by decide +kernel)
theorem seX3_findEarliest : Cond.selects yX3_findEarliest.cls yX3_findEarliest yX3_findEarliest ∈ lw_tbl := List.mem_of_getElem? (i := 604) (by decide +kernel)
theorem seX3_findRing : Cond.selects yX3_findRing.cls yX3_findRing yX3_findRing ∈ lw_tbl := List.mem_of_getElem? (i := 613) (by decide +kernel)
theorem seX3_findWidening : Cond.selects yX3_findWidening.cls yX3_findWidening yX3_findWidening ∈ lw_tbl := List.mem_of_getElem? (i := 625) (by decide +kernel)
theorem seX3_hasEvent : Cond.selects yX3_hasEvent.cls yX3_hasEvent yX3_hasEvent ∈ lw_tbl := List.mem_of_getElem? (i := 587) (by decide +kernel)
theorem seX3_measureTo : Cond.selects yX3_measureTo.cls yX3_measureTo yX3_measureTo ∈ lw_tbl := List.mem_of_getElem? (i := 617) (by decide +kernel)
theorem seX3_nearestAfter : Cond.selects yX3_nearestAfter.cls yX3_nearestAfter yX3_nearestAfter ∈ lw_tbl := List.mem_of_getElem? (i := 621) (by decide +kernel)
theorem seX3_raiseOnce : Cond.selects yX3_raiseOnce.cls yX3_raiseOnce yX3_raiseOnce ∈ lw_tbl := List.mem_of_getElem? (i := 608) (by decide +kernel)
theorem seX3_rank : Cond.selects yX3_rank.cls yX3_rank yX3_rank ∈ lw_tbl := List.mem_of_getElem? (i := 632) (by decide +kernel)
theorem seX3_settle : Cond.selects yX3_settle.cls yX3_settle yX3_settle ∈ lw_tbl := List.mem_of_getElem? (i := 600) (by decide +kernel)
theorem seX4_highWhen : Cond.selects yX4_highWhen.cls yX4_highWhen yX4_highWhen ∈ lw_tbl := List.mem_of_getElem? (i := 326) (by decide +kernel)
theorem seX4_lowWhen : Cond.selects yX4_lowWhen.cls yX4_lowWhen yX4_lowWhen ∈ lw_tbl := List.mem_of_getElem? (i := 314) (by decide +kernel)
theorem seX4_put : Cond.selects yX4_put.cls yX4_put yX4_put ∈ lw_tbl := List.mem_of_getElem? (i := 199) (by decide +kernel)
theorem seX6_addLetter : Cond.selects yX6_addLetter.cls yX6_addLetter yX6_addLetter ∈ lw_tbl := List.mem_of_getElem? (i := 1) (by decide +kernel)
theorem seX6_ahead : Cond.selects yX6_ahead.cls yX6_ahead yX6_ahead ∈ lw_tbl := List.mem_of_getElem? (i := 558) (by decide +kernel)
theorem seX6_ask : Cond.selects yX6_ask.cls yX6_ask yX6_ask ∈ lw_tbl := List.mem_of_getElem? (i := 354) (by decide +kernel)
theorem seX6_council : Cond.selects yX6_council.cls yX6_council yX6_council ∈ lw_tbl := List.mem_of_getElem? (i := 475) (by decide +kernel)
theorem seX6_count : Cond.selects yX6_count.cls yX6_count yX6_count ∈ lw_tbl := List.mem_of_getElem? (i := 648) (by decide +kernel)
theorem seX6_counter : Cond.selects yX6_counter.cls yX6_counter yX6_counter ∈ lw_tbl := List.mem_of_getElem? (i := 291) (by decide +kernel)
theorem seX6_deliver : Cond.selects yX6_deliver.cls yX6_deliver yX6_deliver ∈ lw_tbl := List.mem_of_getElem? (i := 396) (by decide +kernel)
theorem seX6_event : Cond.selects yX6_event.cls yX6_event yX6_event ∈ lw_tbl := List.mem_of_getElem? (i := 574) (by decide +kernel)
theorem seX6_findLetter : Cond.selects yX6_findLetter.cls yX6_findLetter yX6_findLetter ∈ lw_tbl := List.mem_of_getElem? (i := 3) (by decide +kernel)
theorem seX6_findMember : Cond.selects yX6_findMember.cls yX6_findMember yX6_findMember ∈ lw_tbl := List.mem_of_getElem? (i := 0) (by decide +kernel)
theorem seX6_findStamp : Cond.selects yX6_findStamp.cls yX6_findStamp yX6_findStamp ∈ lw_tbl := List.mem_of_getElem? (i := 6) (by decide +kernel)
theorem seX6_findUnderWay : Cond.selects yX6_findUnderWay.cls yX6_findUnderWay yX6_findUnderWay ∈ lw_tbl := List.mem_of_getElem? (i := 2) (by decide +kernel)
theorem seX6_gather : Cond.selects yX6_gather.cls yX6_gather yX6_gather ∈ lw_tbl := List.mem_of_getElem? (i := 4) (by decide +kernel)
theorem seX6_given : Cond.selects yX6_given.cls yX6_given yX6_given ∈ lw_tbl := List.mem_of_getElem? (i := 550) (by decide +kernel)
theorem seX6_go : Cond.selects yX6_go.cls yX6_go yX6_go ∈ lw_tbl := List.mem_of_getElem? (i := 160) (by decide +kernel)
theorem seX6_heard : Cond.selects yX6_heard.cls yX6_heard yX6_heard ∈ lw_tbl := List.mem_of_getElem? (i := 441) (by decide +kernel)
theorem seX6_howManyUnderWay : Cond.selects yX6_howManyUnderWay.cls yX6_howManyUnderWay yX6_howManyUnderWay ∈ lw_tbl := List.mem_of_getElem? (i := 8) (by decide +kernel)
theorem seX6_latestStamped : Cond.selects yX6_latestStamped.cls yX6_latestStamped yX6_latestStamped ∈ lw_tbl := List.mem_of_getElem? (i := 7) (by decide +kernel)
theorem seX6_lead : Cond.selects yX6_lead.cls yX6_lead yX6_lead ∈ lw_tbl := List.mem_of_getElem? (i := 514) (by decide +kernel)
theorem seX6_letter : Cond.selects yX6_letter.cls yX6_letter yX6_letter ∈ lw_tbl := List.mem_of_getElem? (i := 437) (by decide +kernel)
theorem seX6_lie : Cond.selects yX6_lie.cls yX6_lie yX6_lie ∈ lw_tbl := List.mem_of_getElem? (i := 281) (by decide +kernel)
theorem seX6_link : Cond.selects yX6_link.cls yX6_link yX6_link ∈ lw_tbl := List.mem_of_getElem? (i := 583) (by decide +kernel)
theorem seX6_lose : Cond.selects yX6_lose.cls yX6_lose yX6_lose ∈ lw_tbl := List.mem_of_getElem? (i := 429) (by decide +kernel)
theorem seX6_meet : Cond.selects yX6_meet.cls yX6_meet yX6_meet ∈ lw_tbl := List.mem_of_getElem? (i := 501) (by decide +kernel)
theorem seX6_member : Cond.selects yX6_member.cls yX6_member yX6_member ∈ lw_tbl := List.mem_of_getElem? (i := 167) (by decide +kernel)
theorem seX6_mend : Cond.selects yX6_mend.cls yX6_mend yX6_mend ∈ lw_tbl := List.mem_of_getElem? (i := 596) (by decide +kernel)
theorem seX6_noteMeeting : Cond.selects yX6_noteMeeting.cls yX6_noteMeeting yX6_noteMeeting ∈ lw_tbl := List.mem_of_getElem? (i := 5) (by decide +kernel)
theorem seX6_of : Cond.selects yX6_of.cls yX6_of yX6_of ∈ lw_tbl := List.mem_of_getElem? (i := 305) (by decide +kernel)
theorem seX6_order : Cond.selects yX6_order.cls yX6_order yX6_order ∈ lw_tbl := List.mem_of_getElem? (i := 636) (by decide +kernel)
theorem seX6_rate : Cond.selects yX6_rate.cls yX6_rate yX6_rate ∈ lw_tbl := List.mem_of_getElem? (i := 266) (by decide +kernel)
theorem seX6_rest : Cond.selects yX6_rest.cls yX6_rest yX6_rest ∈ lw_tbl := List.mem_of_getElem? (i := 287) (by decide +kernel)
theorem seX6_ring : Cond.selects yX6_ring.cls yX6_ring yX6_ring ∈ lw_tbl := List.mem_of_getElem? (i := 644) (by decide +kernel)
theorem seX6_stamp : Cond.selects yX6_stamp.cls yX6_stamp yX6_stamp ∈ lw_tbl := List.mem_of_getElem? (i := 524) (by decide +kernel)
theorem seX6_time : Cond.selects yX6_time.cls yX6_time yX6_time ∈ lw_tbl := List.mem_of_getElem? (i := 640) (by decide +kernel)
theorem seX6_twice : Cond.selects yX6_twice.cls yX6_twice yX6_twice ∈ lw_tbl := List.mem_of_getElem? (i := 433) (by decide +kernel)
theorem seX6_votes : Cond.selects yX6_votes.cls yX6_votes yX6_votes ∈ lw_tbl := List.mem_of_getElem? (i := 455) (by decide +kernel)
theorem seX6_wait : Cond.selects yX6_wait.cls yX6_wait yX6_wait ∈ lw_tbl := List.mem_of_getElem? (i := 563) (by decide +kernel)
theorem seX7_ahead : Cond.selects yX7_ahead.cls yX7_ahead yX7_ahead ∈ lw_tbl := List.mem_of_getElem? (i := 971) (by decide +kernel)
theorem seX7_ask : Cond.selects yX7_ask.cls yX7_ask yX7_ask ∈ lw_tbl := List.mem_of_getElem? (i := 894) (by decide +kernel)
theorem seX7_atLeast : Cond.selects yX7_atLeast.cls yX7_atLeast yX7_atLeast ∈ lw_tbl := List.mem_of_getElem? (i := 12) (by decide +kernel)
theorem seX7_atMost : Cond.selects yX7_atMost.cls yX7_atMost yX7_atMost ∈ lw_tbl := List.mem_of_getElem? (i := 14) (by decide +kernel)
theorem seX7_council : Cond.selects yX7_council.cls yX7_council yX7_council ∈ lw_tbl := List.mem_of_getElem? (i := 943) (by decide +kernel)
theorem seX7_count : Cond.selects yX7_count.cls yX7_count yX7_count ∈ lw_tbl := List.mem_of_getElem? (i := 1021) (by decide +kernel)
theorem seX7_counter : Cond.selects yX7_counter.cls yX7_counter yX7_counter ∈ lw_tbl := List.mem_of_getElem? (i := 856) (by decide +kernel)
theorem seX7_counterOf : Cond.selects yX7_counterOf.cls yX7_counterOf yX7_counterOf ∈ lw_tbl := List.mem_of_getElem? (i := 10) (by decide +kernel)
theorem seX7_deliver : Cond.selects yX7_deliver.cls yX7_deliver yX7_deliver ∈ lw_tbl := List.mem_of_getElem? (i := 898) (by decide +kernel)
theorem seX7_event : Cond.selects yX7_event.cls yX7_event yX7_event ∈ lw_tbl := List.mem_of_getElem? (i := 980) (by decide +kernel)
theorem seX7_findCouncil : Cond.selects yX7_findCouncil.cls yX7_findCouncil yX7_findCouncil ∈ lw_tbl := List.mem_of_getElem? (i := 21) (by decide +kernel)
theorem seX7_findLongest : Cond.selects yX7_findLongest.cls yX7_findLongest yX7_findLongest ∈ lw_tbl := List.mem_of_getElem? (i := 24) (by decide +kernel)
theorem seX7_findTimes : Cond.selects yX7_findTimes.cls yX7_findTimes yX7_findTimes ∈ lw_tbl := List.mem_of_getElem? (i := 25) (by decide +kernel)
theorem seX7_gather : Cond.selects yX7_gather.cls yX7_gather yX7_gather ∈ lw_tbl := List.mem_of_getElem? (i := 19) (by decide +kernel)
theorem seX7_given : Cond.selects yX7_given.cls yX7_given yX7_given ∈ lw_tbl := List.mem_of_getElem? (i := 963) (by decide +kernel)
theorem seX7_go : Cond.selects yX7_go.cls yX7_go yX7_go ∈ lw_tbl := List.mem_of_getElem? (i := 820) (by decide +kernel)
theorem seX7_heard : Cond.selects yX7_heard.cls yX7_heard yX7_heard ∈ lw_tbl := List.mem_of_getElem? (i := 919) (by decide +kernel)
theorem seX7_heardHighOf : Cond.selects yX7_heardHighOf.cls yX7_heardHighOf yX7_heardHighOf ∈ lw_tbl := List.mem_of_getElem? (i := 18) (by decide +kernel)
theorem seX7_heardLowOf : Cond.selects yX7_heardLowOf.cls yX7_heardLowOf yX7_heardLowOf ∈ lw_tbl := List.mem_of_getElem? (i := 17) (by decide +kernel)
theorem seX7_heardMany : Cond.selects yX7_heardMany.cls yX7_heardMany yX7_heardMany ∈ lw_tbl := List.mem_of_getElem? (i := 15) (by decide +kernel)
theorem seX7_highOf : Cond.selects yX7_highOf.cls yX7_highOf yX7_highOf ∈ lw_tbl := List.mem_of_getElem? (i := 13) (by decide +kernel)
theorem seX7_isEvent : Cond.selects yX7_isEvent.cls yX7_isEvent yX7_isEvent ∈ lw_tbl := List.mem_of_getElem? (i := 23) (by decide +kernel)
theorem seX7_isMember : Cond.selects yX7_isMember.cls yX7_isMember yX7_isMember ∈ lw_tbl := List.mem_of_getElem? (i := 9) (by decide +kernel)
theorem seX7_isStamp : Cond.selects yX7_isStamp.cls yX7_isStamp yX7_isStamp ∈ lw_tbl := List.mem_of_getElem? (i := 22) (by decide +kernel)
theorem seX7_isUnderWay : Cond.selects yX7_isUnderWay.cls yX7_isUnderWay yX7_isUnderWay ∈ lw_tbl := List.mem_of_getElem? (i := 16) (by decide +kernel)
theorem seX7_lead : Cond.selects yX7_lead.cls yX7_lead yX7_lead ∈ lw_tbl := List.mem_of_getElem? (i := 955) (by decide +kernel)
theorem seX7_letter : Cond.selects yX7_letter.cls yX7_letter yX7_letter ∈ lw_tbl := List.mem_of_getElem? (i := 915) (by decide +kernel)
theorem seX7_lie : Cond.selects yX7_lie.cls yX7_lie yX7_lie ∈ lw_tbl := List.mem_of_getElem? (i := 846) (by decide +kernel)
theorem seX7_link : Cond.selects yX7_link.cls yX7_link yX7_link ∈ lw_tbl := List.mem_of_getElem? (i := 984) (by decide +kernel)
theorem seX7_lose : Cond.selects yX7_lose.cls yX7_lose yX7_lose ∈ lw_tbl := List.mem_of_getElem? (i := 907) (by decide +kernel)
theorem seX7_lowOf : Cond.selects yX7_lowOf.cls yX7_lowOf yX7_lowOf ∈ lw_tbl := List.mem_of_getElem? (i := 11) (by decide +kernel)
theorem seX7_meet : Cond.selects yX7_meet.cls yX7_meet yX7_meet ∈ lw_tbl := List.mem_of_getElem? (i := 951) (by decide +kernel)
theorem seX7_member : Cond.selects yX7_member.cls yX7_member yX7_member ∈ lw_tbl := List.mem_of_getElem? (i := 830) (by decide +kernel)
theorem seX7_mend : Cond.selects yX7_mend.cls yX7_mend yX7_mend ∈ lw_tbl := List.mem_of_getElem? (i := 992) (by decide +kernel)
theorem seX7_of : Cond.selects yX7_of.cls yX7_of yX7_of ∈ lw_tbl := List.mem_of_getElem? (i := 867) (by decide +kernel)
theorem seX7_order : Cond.selects yX7_order.cls yX7_order yX7_order ∈ lw_tbl := List.mem_of_getElem? (i := 1000) (by decide +kernel)
theorem seX7_rate : Cond.selects yX7_rate.cls yX7_rate yX7_rate ∈ lw_tbl := List.mem_of_getElem? (i := 837) (by decide +kernel)
theorem seX7_rest : Cond.selects yX7_rest.cls yX7_rest yX7_rest ∈ lw_tbl := List.mem_of_getElem? (i := 852) (by decide +kernel)
theorem seX7_ring : Cond.selects yX7_ring.cls yX7_ring yX7_ring ∈ lw_tbl := List.mem_of_getElem? (i := 1013) (by decide +kernel)
theorem seX7_ringFrom : Cond.selects yX7_ringFrom.cls yX7_ringFrom yX7_ringFrom ∈ lw_tbl := List.mem_of_getElem? (i := 26) (by decide +kernel)
theorem seX7_stamp : Cond.selects yX7_stamp.cls yX7_stamp yX7_stamp ∈ lw_tbl := List.mem_of_getElem? (i := 959) (by decide +kernel)
theorem seX7_time : Cond.selects yX7_time.cls yX7_time yX7_time ∈ lw_tbl := List.mem_of_getElem? (i := 1009) (by decide +kernel)
theorem seX7_twice : Cond.selects yX7_twice.cls yX7_twice yX7_twice ∈ lw_tbl := List.mem_of_getElem? (i := 911) (by decide +kernel)
theorem seX7_votes : Cond.selects yX7_votes.cls yX7_votes yX7_votes ∈ lw_tbl := List.mem_of_getElem? (i := 931) (by decide +kernel)
theorem seX7_votesFor : Cond.selects yX7_votesFor.cls yX7_votesFor yX7_votesFor ∈ lw_tbl := List.mem_of_getElem? (i := 20) (by decide +kernel)
theorem seX7_wait : Cond.selects yX7_wait.cls yX7_wait yX7_wait ∈ lw_tbl := List.mem_of_getElem? (i := 976) (by decide +kernel)
theorem imObj : Cond.instanceMethod objectInit ∈ lw_tbl := by decide +kernel
theorem cdObj : Cond.code objectInit ⟨#[0xb1]⟩ 1 none ∈ lw_tbl := by decide +kernel
