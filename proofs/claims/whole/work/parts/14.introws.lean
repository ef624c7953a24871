/-! branches whose facts speak of whole numbers -/
theorem i32_lt (x y : Int32) : x < y ↔ x.toInt < y.toInt := Int32.lt_iff_toInt_lt
theorem i32_le (x y : Int32) : x ≤ y ↔ x.toInt ≤ y.toInt := Int32.le_iff_toInt_le
theorem i32_eq (x y : Int32) : x = y ↔ x.toInt = y.toInt := ⟨fun h => by rw [h], fun h => Int32.toInt.inj h⟩
theorem i64_lt (x y : Int64) : x < y ↔ x.toInt < y.toInt := Int64.lt_iff_toInt_lt
theorem i64_le (x y : Int64) : x ≤ y ↔ x.toInt ≤ y.toInt := Int64.le_iff_toInt_le
theorem i64_eq (x y : Int64) : x = y ↔ x.toInt = y.toInt := ⟨fun h => by rw [h], fun h => Int64.toInt.inj h⟩
theorem wid (x : Int32) : (Int32.toInt64 x).toInt = x.toInt := Int32.toInt_toInt64 x
section IntRows
variable {g : GG} {M : MD} {pc : Nat} {lv : List (Nat × Value)} {st : List Value} {h : HP} {cs ss : Nat} {Post : Option Value → HP → Prop}
theorem wi_icmp_eq {x y : Int32} {off : Int} {tgt : Nat} (X Y : Int) (hX : x.toInt = X) (hY : y.toInt = Y) (d : decode (mCode M) pc = .ok (.if_icmp .eq off, 3)) (ht : (pc : Int) + off = (tgt : Int)) (kt : X = Y → WP g M tgt lv st h cs ss Post) (kf : ¬ X = Y → WP g M (pc + 3) lv st h cs ss Post) : WP g M pc lv (.int y :: .int x :: st) h cs ss Post :=
  wp_icmp_eq d ht (fun z => kt (by have z' := (i32_eq x y).mp z; rw [hX, hY] at z'; exact z')) (fun z => kf (fun q => z ((i32_eq x y).mpr (by rw [hX, hY]; exact q))))
theorem wi_icmp_ne {x y : Int32} {off : Int} {tgt : Nat} (X Y : Int) (hX : x.toInt = X) (hY : y.toInt = Y) (d : decode (mCode M) pc = .ok (.if_icmp .ne off, 3)) (ht : (pc : Int) + off = (tgt : Int)) (kt : X ≠ Y → WP g M tgt lv st h cs ss Post) (kf : X = Y → WP g M (pc + 3) lv st h cs ss Post) : WP g M pc lv (.int y :: .int x :: st) h cs ss Post :=
  wp_icmp_ne d ht (fun z => kt (fun q => z ((i32_eq x y).mpr (by rw [hX, hY]; exact q)))) (fun z => kf (by have z' := (i32_eq x y).mp z; rw [hX, hY] at z'; exact z'))
theorem wi_icmp_lt {x y : Int32} {off : Int} {tgt : Nat} (X Y : Int) (hX : x.toInt = X) (hY : y.toInt = Y) (d : decode (mCode M) pc = .ok (.if_icmp .lt off, 3)) (ht : (pc : Int) + off = (tgt : Int)) (kt : X < Y → WP g M tgt lv st h cs ss Post) (kf : ¬ X < Y → WP g M (pc + 3) lv st h cs ss Post) : WP g M pc lv (.int y :: .int x :: st) h cs ss Post :=
  wp_icmp_lt d ht (fun z => kt (by have z' := (i32_lt x y).mp z; rw [hX, hY] at z'; exact z')) (fun z => kf (fun q => z ((i32_lt x y).mpr (by rw [hX, hY]; exact q))))
theorem wi_icmp_ge {x y : Int32} {off : Int} {tgt : Nat} (X Y : Int) (hX : x.toInt = X) (hY : y.toInt = Y) (d : decode (mCode M) pc = .ok (.if_icmp .ge off, 3)) (ht : (pc : Int) + off = (tgt : Int)) (kt : Y ≤ X → WP g M tgt lv st h cs ss Post) (kf : ¬ Y ≤ X → WP g M (pc + 3) lv st h cs ss Post) : WP g M pc lv (.int y :: .int x :: st) h cs ss Post :=
  wp_icmp_ge d ht (fun z => kt (by have z' := (i32_le y x).mp z; rw [hX, hY] at z'; exact z')) (fun z => kf (fun q => z ((i32_le y x).mpr (by rw [hX, hY]; exact q))))
theorem wi_icmp_gt {x y : Int32} {off : Int} {tgt : Nat} (X Y : Int) (hX : x.toInt = X) (hY : y.toInt = Y) (d : decode (mCode M) pc = .ok (.if_icmp .gt off, 3)) (ht : (pc : Int) + off = (tgt : Int)) (kt : Y < X → WP g M tgt lv st h cs ss Post) (kf : ¬ Y < X → WP g M (pc + 3) lv st h cs ss Post) : WP g M pc lv (.int y :: .int x :: st) h cs ss Post :=
  wp_icmp_gt d ht (fun z => kt (by have z' := (i32_lt y x).mp z; rw [hX, hY] at z'; exact z')) (fun z => kf (fun q => z ((i32_lt y x).mpr (by rw [hX, hY]; exact q))))
theorem wi_icmp_le {x y : Int32} {off : Int} {tgt : Nat} (X Y : Int) (hX : x.toInt = X) (hY : y.toInt = Y) (d : decode (mCode M) pc = .ok (.if_icmp .le off, 3)) (ht : (pc : Int) + off = (tgt : Int)) (kt : X ≤ Y → WP g M tgt lv st h cs ss Post) (kf : ¬ X ≤ Y → WP g M (pc + 3) lv st h cs ss Post) : WP g M pc lv (.int y :: .int x :: st) h cs ss Post :=
  wp_icmp_le d ht (fun z => kt (by have z' := (i32_le x y).mp z; rw [hX, hY] at z'; exact z')) (fun z => kf (fun q => z ((i32_le x y).mpr (by rw [hX, hY]; exact q))))
theorem wi_if_eq {x : Int32} {off : Int} {tgt : Nat} (X : Int) (hX : x.toInt = X) (d : decode (mCode M) pc = .ok (.ifCond .eq off, 3)) (ht : (pc : Int) + off = (tgt : Int)) (kt : X = 0 → WP g M tgt lv st h cs ss Post) (kf : ¬ X = 0 → WP g M (pc + 3) lv st h cs ss Post) : WP g M pc lv (.int x :: st) h cs ss Post :=
  wp_if_eq d ht (fun z => kt (by have z' := (i32_eq x 0).mp z; rw [hX] at z'; exact z')) (fun z => kf (fun q => z ((i32_eq x 0).mpr (by rw [hX]; exact q))))
theorem wi_if_ne {x : Int32} {off : Int} {tgt : Nat} (X : Int) (hX : x.toInt = X) (d : decode (mCode M) pc = .ok (.ifCond .ne off, 3)) (ht : (pc : Int) + off = (tgt : Int)) (kt : X ≠ 0 → WP g M tgt lv st h cs ss Post) (kf : X = 0 → WP g M (pc + 3) lv st h cs ss Post) : WP g M pc lv (.int x :: st) h cs ss Post :=
  wp_if_ne d ht (fun z => kt (fun q => z ((i32_eq x 0).mpr (by rw [hX]; exact q)))) (fun z => kf (by have z' := (i32_eq x 0).mp z; rw [hX] at z'; exact z'))
theorem wi_if_lt {x : Int32} {off : Int} {tgt : Nat} (X : Int) (hX : x.toInt = X) (d : decode (mCode M) pc = .ok (.ifCond .lt off, 3)) (ht : (pc : Int) + off = (tgt : Int)) (kt : X < 0 → WP g M tgt lv st h cs ss Post) (kf : ¬ X < 0 → WP g M (pc + 3) lv st h cs ss Post) : WP g M pc lv (.int x :: st) h cs ss Post :=
  wp_if_lt d ht (fun z => kt (by have z' := (i32_lt x 0).mp z; rw [hX] at z'; exact z')) (fun z => kf (fun q => z ((i32_lt x 0).mpr (by rw [hX]; exact q))))
theorem wi_if_ge {x : Int32} {off : Int} {tgt : Nat} (X : Int) (hX : x.toInt = X) (d : decode (mCode M) pc = .ok (.ifCond .ge off, 3)) (ht : (pc : Int) + off = (tgt : Int)) (kt : 0 ≤ X → WP g M tgt lv st h cs ss Post) (kf : ¬ 0 ≤ X → WP g M (pc + 3) lv st h cs ss Post) : WP g M pc lv (.int x :: st) h cs ss Post :=
  wp_if_ge d ht (fun z => kt (by have z' := (i32_le 0 x).mp z; rw [hX] at z'; exact z')) (fun z => kf (fun q => z ((i32_le 0 x).mpr (by rw [hX]; exact q))))
theorem wi_if_gt {x : Int32} {off : Int} {tgt : Nat} (X : Int) (hX : x.toInt = X) (d : decode (mCode M) pc = .ok (.ifCond .gt off, 3)) (ht : (pc : Int) + off = (tgt : Int)) (kt : 0 < X → WP g M tgt lv st h cs ss Post) (kf : ¬ 0 < X → WP g M (pc + 3) lv st h cs ss Post) : WP g M pc lv (.int x :: st) h cs ss Post :=
  wp_if_gt d ht (fun z => kt (by have z' := (i32_lt 0 x).mp z; rw [hX] at z'; exact z')) (fun z => kf (fun q => z ((i32_lt 0 x).mpr (by rw [hX]; exact q))))
theorem wi_if_le {x : Int32} {off : Int} {tgt : Nat} (X : Int) (hX : x.toInt = X) (d : decode (mCode M) pc = .ok (.ifCond .le off, 3)) (ht : (pc : Int) + off = (tgt : Int)) (kt : X ≤ 0 → WP g M tgt lv st h cs ss Post) (kf : ¬ X ≤ 0 → WP g M (pc + 3) lv st h cs ss Post) : WP g M pc lv (.int x :: st) h cs ss Post :=
  wp_if_le d ht (fun z => kt (by have z' := (i32_le x 0).mp z; rw [hX] at z'; exact z')) (fun z => kf (fun q => z ((i32_le x 0).mpr (by rw [hX]; exact q))))
theorem wil_eq {x y : Int64} {off : Int} {tgt : Nat} (X Y : Int) (hX : x.toInt = X) (hY : y.toInt = Y) (d : decode (mCode M) pc = .ok (.lcmp, 1)) (d2 : decode (mCode M) (pc + 1) = .ok (.ifCond .eq off, 3)) (ht : ((pc + 1 : Nat) : Int) + off = (tgt : Int)) (kt : X = Y → WP g M tgt lv st h cs ss Post) (kf : ¬ X = Y → WP g M (pc + 4) lv st h cs ss Post) : WP g M pc lv (.long y :: .long x :: st) h cs ss Post :=
  wl_eq d d2 ht (fun z => kt (by have z' := (i64_eq x y).mp z; rw [hX, hY] at z'; exact z')) (fun z => kf (fun q => z ((i64_eq x y).mpr (by rw [hX, hY]; exact q))))
theorem wil_ne {x y : Int64} {off : Int} {tgt : Nat} (X Y : Int) (hX : x.toInt = X) (hY : y.toInt = Y) (d : decode (mCode M) pc = .ok (.lcmp, 1)) (d2 : decode (mCode M) (pc + 1) = .ok (.ifCond .ne off, 3)) (ht : ((pc + 1 : Nat) : Int) + off = (tgt : Int)) (kt : X ≠ Y → WP g M tgt lv st h cs ss Post) (kf : X = Y → WP g M (pc + 4) lv st h cs ss Post) : WP g M pc lv (.long y :: .long x :: st) h cs ss Post :=
  wl_ne d d2 ht (fun z => kt (fun q => z ((i64_eq x y).mpr (by rw [hX, hY]; exact q)))) (fun z => kf (by have z' := (i64_eq x y).mp z; rw [hX, hY] at z'; exact z'))
theorem wil_lt {x y : Int64} {off : Int} {tgt : Nat} (X Y : Int) (hX : x.toInt = X) (hY : y.toInt = Y) (d : decode (mCode M) pc = .ok (.lcmp, 1)) (d2 : decode (mCode M) (pc + 1) = .ok (.ifCond .lt off, 3)) (ht : ((pc + 1 : Nat) : Int) + off = (tgt : Int)) (kt : X < Y → WP g M tgt lv st h cs ss Post) (kf : ¬ X < Y → WP g M (pc + 4) lv st h cs ss Post) : WP g M pc lv (.long y :: .long x :: st) h cs ss Post :=
  wl_lt d d2 ht (fun z => kt (by have z' := (i64_lt x y).mp z; rw [hX, hY] at z'; exact z')) (fun z => kf (fun q => z ((i64_lt x y).mpr (by rw [hX, hY]; exact q))))
theorem wil_ge {x y : Int64} {off : Int} {tgt : Nat} (X Y : Int) (hX : x.toInt = X) (hY : y.toInt = Y) (d : decode (mCode M) pc = .ok (.lcmp, 1)) (d2 : decode (mCode M) (pc + 1) = .ok (.ifCond .ge off, 3)) (ht : ((pc + 1 : Nat) : Int) + off = (tgt : Int)) (kt : Y ≤ X → WP g M tgt lv st h cs ss Post) (kf : ¬ Y ≤ X → WP g M (pc + 4) lv st h cs ss Post) : WP g M pc lv (.long y :: .long x :: st) h cs ss Post :=
  wl_ge d d2 ht (fun z => kt (by have z' := (i64_le y x).mp z; rw [hX, hY] at z'; exact z')) (fun z => kf (fun q => z ((i64_le y x).mpr (by rw [hX, hY]; exact q))))
theorem wil_gt {x y : Int64} {off : Int} {tgt : Nat} (X Y : Int) (hX : x.toInt = X) (hY : y.toInt = Y) (d : decode (mCode M) pc = .ok (.lcmp, 1)) (d2 : decode (mCode M) (pc + 1) = .ok (.ifCond .gt off, 3)) (ht : ((pc + 1 : Nat) : Int) + off = (tgt : Int)) (kt : Y < X → WP g M tgt lv st h cs ss Post) (kf : ¬ Y < X → WP g M (pc + 4) lv st h cs ss Post) : WP g M pc lv (.long y :: .long x :: st) h cs ss Post :=
  wl_gt d d2 ht (fun z => kt (by have z' := (i64_lt y x).mp z; rw [hX, hY] at z'; exact z')) (fun z => kf (fun q => z ((i64_lt y x).mpr (by rw [hX, hY]; exact q))))
theorem wil_le {x y : Int64} {off : Int} {tgt : Nat} (X Y : Int) (hX : x.toInt = X) (hY : y.toInt = Y) (d : decode (mCode M) pc = .ok (.lcmp, 1)) (d2 : decode (mCode M) (pc + 1) = .ok (.ifCond .le off, 3)) (ht : ((pc + 1 : Nat) : Int) + off = (tgt : Int)) (kt : X ≤ Y → WP g M tgt lv st h cs ss Post) (kf : ¬ X ≤ Y → WP g M (pc + 4) lv st h cs ss Post) : WP g M pc lv (.long y :: .long x :: st) h cs ss Post :=
  wl_le d d2 ht (fun z => kt (by have z' := (i64_le x y).mp z; rw [hX, hY] at z'; exact z')) (fun z => kf (fun q => z ((i64_le x y).mpr (by rw [hX, hY]; exact q))))
end IntRows
theorem nIt {n : Nat} (h : n ≤ 100000) : (nI n).toInt = (n : Int) := nI_toInt (by omega)
/-- an index in range is a small number -/
theorem ofm {x : Int32} {n : Nat} (h0 : 0 ≤ x.toInt) (h1 : x.toInt < n) (hn : n ≤ 100000) : ∃ i, i < n ∧ x = nI i := by
  refine ⟨x.toInt.toNat, by omega, ?_⟩
  rw [i32_eq, nIt (by omega)]
  omega
theorem i64_sub1 {n : Nat} (h : n ≤ 100000) : (Int32.toInt64 (nI n) - 1).toInt = (n : Int) - 1 := by
  rw [Int64.toInt_sub, wid, nIt h]
  exact Int.bmod_eq_of_le (by simp; omega) (by simp; omega)
theorem toL {n : Nat} (h : n ≤ 100000) : (Int32.toInt64 (nI n)).toInt = (n : Int) := by rw [wid, nIt h]
