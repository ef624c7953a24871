/-! a new member -/
theorem iv_member {n : Nat} {h : HP} {nm nl ns ne nk : Nat} {fr to : Nat → Nat} {E : Nat → Nat → Prop} (hI : IV n h nm nl ns ne nk fr to E) (hn : n < 64) (hnm : nm < 10) (kd1 p e : Int32) (hk : 0 ≤ kd1.toInt ∧ kd1.toInt ≤ 4) (hp : 0 ≤ p.toInt ∧ p.toInt ≤ 200) (he : 0 ≤ e.toInt ∧ e.toInt ≤ 100000) : IV (n + 1) (sI (sL (sL (sL (sL (sL (sL (sL (sL (sI (sI (sP (sP (sN (sL (sL (sL (sL (sI (sP (sN (sI (sI (sL (sI (sI (sI (sI (sN h (1000 + nm)) (1000 + nm) (0) (nI nm)) (1000 + nm) (1) (kd1)) (1000 + nm) (2) (p)) (1000 + nm) (3) (e)) (1000 + nm) (4) (vL h 100 0)) (1000 + nm) (5) (1)) (1000 + nm) (6) (1)) (2000 + nm)) (1000 + nm) (8) (some (2000 + nm))) (2000 + nm) (0) (1)) (2000 + nm) (1) (vL h 100 0 - Int32.toInt64 e)) (2000 + nm) (2) (vL h 100 0 + Int32.toInt64 e)) (2000 + nm) (3) (0)) (1000 + nm) (12) (vL h 100 0 - Int32.toInt64 e)) (3000 + nm)) (1000 + nm) (9) (some (3000 + nm))) (2) (nm) (some (1000 + nm))) (1) (2) (nI (nm + 1))) (103) (nm) (kd1)) (104) (nm) (Int32.toInt64 p)) (105) (nm) (Int32.toInt64 e)) (106) (nm) (vL h 100 0)) (107) (nm) (1)) (108) (nm) (1)) (109) (nm) (vL h 100 0 - Int32.toInt64 e)) (110) (nm) (vL h 100 0 + Int32.toInt64 e)) (115) (nm) (vL h 100 0 - Int32.toInt64 e)) (100) (1) (nI (nm + 1))) (nm + 1) nl ns ne nk fr to E := by
  have hm := ivnm hI
  have hl : nl ≤ 200 := Nat.le_of_lt (ivSL hI).1
  have hn0 := Nat.le_succ n
  have hl2 := (ivSL hI).1
  have hs2 := (ivSS hI).1
  generalize hH : (sI (sL (sL (sL (sL (sL (sL (sL (sL (sI (sI (sP (sP (sN (sL (sL (sL (sL (sI (sP (sN (sI (sI (sL (sI (sI (sI (sI (sN h (1000 + nm)) (1000 + nm) (0) (nI nm)) (1000 + nm) (1) (kd1)) (1000 + nm) (2) (p)) (1000 + nm) (3) (e)) (1000 + nm) (4) (vL h 100 0)) (1000 + nm) (5) (1)) (1000 + nm) (6) (1)) (2000 + nm)) (1000 + nm) (8) (some (2000 + nm))) (2000 + nm) (0) (1)) (2000 + nm) (1) (vL h 100 0 - Int32.toInt64 e)) (2000 + nm) (2) (vL h 100 0 + Int32.toInt64 e)) (2000 + nm) (3) (0)) (1000 + nm) (12) (vL h 100 0 - Int32.toInt64 e)) (3000 + nm)) (1000 + nm) (9) (some (3000 + nm))) (2) (nm) (some (1000 + nm))) (1) (2) (nI (nm + 1))) (103) (nm) (kd1)) (104) (nm) (Int32.toInt64 p)) (105) (nm) (Int32.toInt64 e)) (106) (nm) (vL h 100 0)) (107) (nm) (1)) (108) (nm) (1)) (109) (nm) (vL h 100 0 - Int32.toInt64 e)) (110) (nm) (vL h 100 0 + Int32.toInt64 e)) (115) (nm) (vL h 100 0 - Int32.toInt64 e)) (100) (1) (nI (nm + 1))) = H
  have fI : ∀ b k, (¬ (b = 1000 + nm ∧ k = 0) ∧ ¬ (b = 1000 + nm ∧ k = 1) ∧ ¬ (b = 1000 + nm ∧ k = 2) ∧ ¬ (b = 1000 + nm ∧ k = 3) ∧ ¬ (b = 1000 + nm ∧ k = 5) ∧ ¬ (b = 1000 + nm ∧ k = 6) ∧ ¬ (b = 2000 + nm ∧ k = 0) ∧ ¬ (b = 1 ∧ k = 2) ∧ ¬ (b = 103 ∧ k = nm) ∧ ¬ (b = 100 ∧ k = 1) ∧ b ≠ 1000 + nm ∧ b ≠ 2000 + nm ∧ b ≠ 3000 + nm) → vI H b k = vI h b k := fun b k c => by rw [← hH, vI_ne (by omega), vI_sL, vI_sL, vI_sL, vI_sL, vI_sL, vI_sL, vI_sL, vI_sL, vI_ne (by omega), vI_ne (by omega), vI_sP, vI_sP, vI_nN (by omega), vI_sL, vI_sL, vI_sL, vI_sL, vI_ne (by omega), vI_sP, vI_nN (by omega), vI_ne (by omega), vI_ne (by omega), vI_sL, vI_ne (by omega), vI_ne (by omega), vI_ne (by omega), vI_ne (by omega), vI_nN (by omega)]
  have fL : ∀ b k, (¬ (b = 1000 + nm ∧ k = 4) ∧ ¬ (b = 2000 + nm ∧ k = 1) ∧ ¬ (b = 2000 + nm ∧ k = 2) ∧ ¬ (b = 2000 + nm ∧ k = 3) ∧ ¬ (b = 1000 + nm ∧ k = 12) ∧ ¬ (b = 104 ∧ k = nm) ∧ ¬ (b = 105 ∧ k = nm) ∧ ¬ (b = 106 ∧ k = nm) ∧ ¬ (b = 107 ∧ k = nm) ∧ ¬ (b = 108 ∧ k = nm) ∧ ¬ (b = 109 ∧ k = nm) ∧ ¬ (b = 110 ∧ k = nm) ∧ ¬ (b = 115 ∧ k = nm) ∧ b ≠ 1000 + nm ∧ b ≠ 2000 + nm ∧ b ≠ 3000 + nm) → vL H b k = vL h b k := fun b k c => by rw [← hH, vL_sI, vL_ne (by omega), vL_ne (by omega), vL_ne (by omega), vL_ne (by omega), vL_ne (by omega), vL_ne (by omega), vL_ne (by omega), vL_ne (by omega), vL_sI, vL_sI, vL_sP, vL_sP, vL_nN (by omega), vL_ne (by omega), vL_ne (by omega), vL_ne (by omega), vL_ne (by omega), vL_sI, vL_sP, vL_nN (by omega), vL_sI, vL_sI, vL_ne (by omega), vL_sI, vL_sI, vL_sI, vL_sI, vL_nN (by omega)]
  have fP : ∀ b k, (¬ (b = 1000 + nm ∧ k = 8) ∧ ¬ (b = 1000 + nm ∧ k = 9) ∧ ¬ (b = 2 ∧ k = nm) ∧ b ≠ 1000 + nm ∧ b ≠ 2000 + nm ∧ b ≠ 3000 + nm) → vP H b k = vP h b k := fun b k c => by rw [← hH, vP_sI, vP_sL, vP_sL, vP_sL, vP_sL, vP_sL, vP_sL, vP_sL, vP_sL, vP_sI, vP_sI, vP_ne (by omega), vP_ne (by omega), vP_nN (by omega), vP_sL, vP_sL, vP_sL, vP_sL, vP_sI, vP_ne (by omega), vP_nN (by omega), vP_sI, vP_sI, vP_sL, vP_sI, vP_sI, vP_sI, vP_sI, vP_nN (by omega)]
  have fZ : ∀ b, (b ≠ 1000 + nm ∧ b ≠ 2000 + nm ∧ b ≠ 3000 + nm) → liv H b = liv h b := fun b c => by rw [← hH, liv_sI, liv_sL, liv_sL, liv_sL, liv_sL, liv_sL, liv_sL, liv_sL, liv_sL, liv_sI, liv_sI, liv_sP, liv_sP, liv_other (by omega), liv_sL, liv_sL, liv_sL, liv_sL, liv_sI, liv_sP, liv_other (by omega), liv_sI, liv_sI, liv_sL, liv_sI, liv_sI, liv_sI, liv_sI, liv_other (by omega)]
  have c0 : vI H (1000 + nm) 0 = nI nm := by rw [← hH, vI_ne (by omega), vI_sL, vI_sL, vI_sL, vI_sL, vI_sL, vI_sL, vI_sL, vI_sL, vI_ne (by omega), vI_ne (by omega), vI_sP, vI_sP, vI_nN (by omega), vI_sL, vI_sL, vI_sL, vI_sL, vI_ne (by omega), vI_sP, vI_nN (by omega), vI_ne (by omega), vI_ne (by omega), vI_sL, vI_ne (by omega), vI_ne (by omega), vI_ne (by omega), vIs]
  have c1 : vI H (1000 + nm) 1 = kd1 := by rw [← hH, vI_ne (by omega), vI_sL, vI_sL, vI_sL, vI_sL, vI_sL, vI_sL, vI_sL, vI_sL, vI_ne (by omega), vI_ne (by omega), vI_sP, vI_sP, vI_nN (by omega), vI_sL, vI_sL, vI_sL, vI_sL, vI_ne (by omega), vI_sP, vI_nN (by omega), vI_ne (by omega), vI_ne (by omega), vI_sL, vI_ne (by omega), vI_ne (by omega), vIs]
  have c2 : vI H (1000 + nm) 2 = p := by rw [← hH, vI_ne (by omega), vI_sL, vI_sL, vI_sL, vI_sL, vI_sL, vI_sL, vI_sL, vI_sL, vI_ne (by omega), vI_ne (by omega), vI_sP, vI_sP, vI_nN (by omega), vI_sL, vI_sL, vI_sL, vI_sL, vI_ne (by omega), vI_sP, vI_nN (by omega), vI_ne (by omega), vI_ne (by omega), vI_sL, vI_ne (by omega), vIs]
  have c3 : vI H (1000 + nm) 3 = e := by rw [← hH, vI_ne (by omega), vI_sL, vI_sL, vI_sL, vI_sL, vI_sL, vI_sL, vI_sL, vI_sL, vI_ne (by omega), vI_ne (by omega), vI_sP, vI_sP, vI_nN (by omega), vI_sL, vI_sL, vI_sL, vI_sL, vI_ne (by omega), vI_sP, vI_nN (by omega), vI_ne (by omega), vI_ne (by omega), vI_sL, vIs]
  have c4 : vL H (1000 + nm) 4 = vL h 100 0 := by rw [← hH, vL_sI, vL_ne (by omega), vL_ne (by omega), vL_ne (by omega), vL_ne (by omega), vL_ne (by omega), vL_ne (by omega), vL_ne (by omega), vL_ne (by omega), vL_sI, vL_sI, vL_sP, vL_sP, vL_nN (by omega), vL_ne (by omega), vL_ne (by omega), vL_ne (by omega), vL_ne (by omega), vL_sI, vL_sP, vL_nN (by omega), vL_sI, vL_sI, vLs]
  have c5 : vI H (1000 + nm) 5 = 1 := by rw [← hH, vI_ne (by omega), vI_sL, vI_sL, vI_sL, vI_sL, vI_sL, vI_sL, vI_sL, vI_sL, vI_ne (by omega), vI_ne (by omega), vI_sP, vI_sP, vI_nN (by omega), vI_sL, vI_sL, vI_sL, vI_sL, vI_ne (by omega), vI_sP, vI_nN (by omega), vI_ne (by omega), vIs]
  have c6 : vI H (1000 + nm) 6 = 1 := by rw [← hH, vI_ne (by omega), vI_sL, vI_sL, vI_sL, vI_sL, vI_sL, vI_sL, vI_sL, vI_sL, vI_ne (by omega), vI_ne (by omega), vI_sP, vI_sP, vI_nN (by omega), vI_sL, vI_sL, vI_sL, vI_sL, vI_ne (by omega), vI_sP, vI_nN (by omega), vIs]
  have c7 : vI H (1000 + nm) 7 = 0 := by rw [← hH, vI_ne (by omega), vI_sL, vI_sL, vI_sL, vI_sL, vI_sL, vI_sL, vI_sL, vI_sL, vI_ne (by omega), vI_ne (by omega), vI_sP, vI_sP, vI_nN (by omega), vI_sL, vI_sL, vI_sL, vI_sL, vI_ne (by omega), vI_sP, vI_nN (by omega), vI_ne (by omega), vI_ne (by omega), vI_sL, vI_ne (by omega), vI_ne (by omega), vI_ne (by omega), vI_ne (by omega), vI_NN]
  have c10 : vL H (1000 + nm) 10 = 0 := by rw [← hH, vL_sI, vL_ne (by omega), vL_ne (by omega), vL_ne (by omega), vL_ne (by omega), vL_ne (by omega), vL_ne (by omega), vL_ne (by omega), vL_ne (by omega), vL_sI, vL_sI, vL_sP, vL_sP, vL_nN (by omega), vL_ne (by omega), vL_ne (by omega), vL_ne (by omega), vL_ne (by omega), vL_sI, vL_sP, vL_nN (by omega), vL_sI, vL_sI, vL_ne (by omega), vL_sI, vL_sI, vL_sI, vL_sI, vL_NN]
  have c11 : vL H (1000 + nm) 11 = 0 := by rw [← hH, vL_sI, vL_ne (by omega), vL_ne (by omega), vL_ne (by omega), vL_ne (by omega), vL_ne (by omega), vL_ne (by omega), vL_ne (by omega), vL_ne (by omega), vL_sI, vL_sI, vL_sP, vL_sP, vL_nN (by omega), vL_ne (by omega), vL_ne (by omega), vL_ne (by omega), vL_ne (by omega), vL_sI, vL_sP, vL_nN (by omega), vL_sI, vL_sI, vL_ne (by omega), vL_sI, vL_sI, vL_sI, vL_sI, vL_NN]
  have c12 : vL H (1000 + nm) 12 = vL h 100 0 - Int32.toInt64 e := by rw [← hH, vL_sI, vL_ne (by omega), vL_ne (by omega), vL_ne (by omega), vL_ne (by omega), vL_ne (by omega), vL_ne (by omega), vL_ne (by omega), vL_ne (by omega), vL_sI, vL_sI, vL_sP, vL_sP, vL_nN (by omega), vLs]
  have c13 : vL H (1000 + nm) 13 = 0 := by rw [← hH, vL_sI, vL_ne (by omega), vL_ne (by omega), vL_ne (by omega), vL_ne (by omega), vL_ne (by omega), vL_ne (by omega), vL_ne (by omega), vL_ne (by omega), vL_sI, vL_sI, vL_sP, vL_sP, vL_nN (by omega), vL_ne (by omega), vL_ne (by omega), vL_ne (by omega), vL_ne (by omega), vL_sI, vL_sP, vL_nN (by omega), vL_sI, vL_sI, vL_ne (by omega), vL_sI, vL_sI, vL_sI, vL_sI, vL_NN]
  have c14 : vI H (1000 + nm) 14 = 0 := by rw [← hH, vI_ne (by omega), vI_sL, vI_sL, vI_sL, vI_sL, vI_sL, vI_sL, vI_sL, vI_sL, vI_ne (by omega), vI_ne (by omega), vI_sP, vI_sP, vI_nN (by omega), vI_sL, vI_sL, vI_sL, vI_sL, vI_ne (by omega), vI_sP, vI_nN (by omega), vI_ne (by omega), vI_ne (by omega), vI_sL, vI_ne (by omega), vI_ne (by omega), vI_ne (by omega), vI_ne (by omega), vI_NN]
  have c15 : vI H (1000 + nm) 15 = 0 := by rw [← hH, vI_ne (by omega), vI_sL, vI_sL, vI_sL, vI_sL, vI_sL, vI_sL, vI_sL, vI_sL, vI_ne (by omega), vI_ne (by omega), vI_sP, vI_sP, vI_nN (by omega), vI_sL, vI_sL, vI_sL, vI_sL, vI_ne (by omega), vI_sP, vI_nN (by omega), vI_ne (by omega), vI_ne (by omega), vI_sL, vI_ne (by omega), vI_ne (by omega), vI_ne (by omega), vI_ne (by omega), vI_NN]
  have o1 : vL H (2000 + nm) 1 = vL h 100 0 - Int32.toInt64 e := by rw [← hH, vL_sI, vL_ne (by omega), vL_ne (by omega), vL_ne (by omega), vL_ne (by omega), vL_ne (by omega), vL_ne (by omega), vL_ne (by omega), vL_ne (by omega), vL_sI, vL_sI, vL_sP, vL_sP, vL_nN (by omega), vL_ne (by omega), vL_ne (by omega), vL_ne (by omega), vLs]
  have o2 : vL H (2000 + nm) 2 = vL h 100 0 + Int32.toInt64 e := by rw [← hH, vL_sI, vL_ne (by omega), vL_ne (by omega), vL_ne (by omega), vL_ne (by omega), vL_ne (by omega), vL_ne (by omega), vL_ne (by omega), vL_ne (by omega), vL_sI, vL_sI, vL_sP, vL_sP, vL_nN (by omega), vL_ne (by omega), vL_ne (by omega), vLs]
  have o3 : vL H (2000 + nm) 3 = 0 := by rw [← hH, vL_sI, vL_ne (by omega), vL_ne (by omega), vL_ne (by omega), vL_ne (by omega), vL_ne (by omega), vL_ne (by omega), vL_ne (by omega), vL_ne (by omega), vL_sI, vL_sI, vL_sP, vL_sP, vL_nN (by omega), vL_ne (by omega), vLs]
  have m103 : vI H (103) nm = kd1 := by rw [← hH, vI_ne (by omega), vI_sL, vI_sL, vI_sL, vI_sL, vI_sL, vI_sL, vI_sL, vI_sL, vIs]
  have m104 : vL H (104) nm = Int32.toInt64 p := by rw [← hH, vL_sI, vL_ne (by omega), vL_ne (by omega), vL_ne (by omega), vL_ne (by omega), vL_ne (by omega), vL_ne (by omega), vL_ne (by omega), vLs]
  have m105 : vL H (105) nm = Int32.toInt64 e := by rw [← hH, vL_sI, vL_ne (by omega), vL_ne (by omega), vL_ne (by omega), vL_ne (by omega), vL_ne (by omega), vL_ne (by omega), vLs]
  have m106 : vL H (106) nm = vL h 100 0 := by rw [← hH, vL_sI, vL_ne (by omega), vL_ne (by omega), vL_ne (by omega), vL_ne (by omega), vL_ne (by omega), vLs]
  have m107 : vL H (107) nm = 1 := by rw [← hH, vL_sI, vL_ne (by omega), vL_ne (by omega), vL_ne (by omega), vL_ne (by omega), vLs]
  have m108 : vL H (108) nm = 1 := by rw [← hH, vL_sI, vL_ne (by omega), vL_ne (by omega), vL_ne (by omega), vLs]
  have m109 : vL H (109) nm = vL h 100 0 - Int32.toInt64 e := by rw [← hH, vL_sI, vL_ne (by omega), vL_ne (by omega), vLs]
  have m110 : vL H (110) nm = vL h 100 0 + Int32.toInt64 e := by rw [← hH, vL_sI, vL_ne (by omega), vLs]
  have m115 : vL H (115) nm = vL h 100 0 - Int32.toInt64 e := by rw [← hH, vL_sI, vLs]
  have m111 : vL H (111) nm = 0 := by rw [fL _ _ (by omega)]; exact (ivRZ hI nm (Nat.le_refl _) hnm).1
  have m112 : vL H (112) nm = 0 := by rw [fL _ _ (by omega)]; exact (ivRZ hI nm (Nat.le_refl _) hnm).2.1
  have m113 : vL H (113) nm = 0 := by rw [fL _ _ (by omega)]; exact (ivRZ hI nm (Nat.le_refl _) hnm).2.2.1
  have m114 : vI H (114) nm = 0 := by rw [fI _ _ (by omega)]; exact (ivRZ hI nm (Nat.le_refl _) hnm).2.2.2.1
  have m116 : vL H (116) nm = 0 := by rw [fL _ _ (by omega)]; exact (ivRZ hI nm (Nat.le_refl _) hnm).2.2.2.2.1
  have m117 : vI H (117) nm = 0 := by rw [fI _ _ (by omega)]; exact (ivRZ hI nm (Nat.le_refl _) hnm).2.2.2.2.2.1
  have m118 : vI H (118) nm = 0 := by rw [fI _ _ (by omega)]; exact (ivRZ hI nm (Nat.le_refl _) hnm).2.2.2.2.2.2
  have en : vL H 100 0 = vL h 100 0 := fL 100 0 (by omega)
  have hw := ivNW hI
  have hw0 := hw.2.1
  have hw1 := hw.2.2
  have l1 : (vL h 100 0 - Int32.toInt64 e).toInt = (vL h 100 0).toInt - e.toInt := by rw [L_sub (by rw [wid]; omega) (by rw [wid]; omega), wid]
  have l2 : (vL h 100 0 + Int32.toInt64 e).toInt = (vL h 100 0).toInt + e.toInt := by rw [L_add (by rw [wid]; omega) (by rw [wid]; omega), wid]
  have hNW : NW (n + 1) H := NW_cg (ivNW hI) hn0 (fun b k c => fL b k (by omega))
  have hRG : RG H (nm + 1) := fun j hj => by
    by_cases z : j = nm
    · subst z
      rw [m103, m104, m105, m106, m107, m108, m114, en]
      exact ⟨hk, by rw [wid]; exact hp, by rw [wid]; exact he, by decide, by decide, ⟨hw.2.1, Int.le_refl _⟩, Or.inl rfl⟩
    · rw [fI 103 _ (by omega), fI 114 _ (by omega), fL 104 _ (by omega), fL 105 _ (by omega), fL 106 _ (by omega), fL 107 _ (by omega), fL 108 _ (by omega), en]
      exact ivRG hI j (by omega)
  have mc : (mCn H nm).toInt = 0 := by
    rw [mCn_i (by omega) hNW hRG (by omega), en, m106, Int.sub_self, Int.zero_mul, Int.zero_ediv]
  have lvA : liv H (1000 + nm) = true := by rw [← hH, liv_sI, liv_sL, liv_sL, liv_sL, liv_sL, liv_sL, liv_sL, liv_sL, liv_sL, liv_sI, liv_sI, liv_sP, liv_sP, liv_other (by omega), liv_sL, liv_sL, liv_sL, liv_sL, liv_sI, liv_sP, liv_other (by omega), liv_sI, liv_sI, liv_sL, liv_sI, liv_sI, liv_sI, liv_sI]; exact liv_new _ _
  have lvO : liv H (2000 + nm) = true := by rw [← hH, liv_sI, liv_sL, liv_sL, liv_sL, liv_sL, liv_sL, liv_sL, liv_sL, liv_sL, liv_sI, liv_sI, liv_sP, liv_sP, liv_other (by omega), liv_sL, liv_sL, liv_sL, liv_sL, liv_sI, liv_sP]; exact liv_new _ _
  have lvR : liv H (3000 + nm) = true := by rw [← hH, liv_sI, liv_sL, liv_sL, liv_sL, liv_sL, liv_sL, liv_sL, liv_sL, liv_sL, liv_sI, liv_sI, liv_sP, liv_sP]; exact liv_new _ _
  have eC' : ∀ i, i < nm → mCn H i = mCn h i := fun i hi => by unfold mCn; rw [fL 106 _ (by omega), fL 107 _ (by omega), fL 108 _ (by omega), en]
  have eC : ∀ i, i < nm → (mCn h i).toInt ≤ (mCn H i).toInt := fun i hi => Int.le_of_eq (by rw [eC' i hi])
  exact ⟨SR_cg (ivSR hI) (fun b c => fZ b (by first | trivial | omega)) (fun b k c => fP b k (by first | trivial | omega)),
    (by
      obtain ⟨s1, s2, s3, s4⟩ := ivSM hI
      have f4 := s4 nm (Nat.le_refl _) hnm
      refine ⟨by omega, by rw [← hH, vI_ne (by omega), vI_sL, vI_sL, vI_sL, vI_sL, vI_sL, vI_sL, vI_sL, vI_sL, vI_ne (by omega), vIs], fun i hi => ?_, fun i hi hi2 => ?_⟩
      · by_cases z : i = nm
        · subst z
          refine ⟨by rw [← hH, vP_sI, vP_sL, vP_sL, vP_sL, vP_sL, vP_sL, vP_sL, vP_sL, vP_sL, vP_sI, vP_sI, vPs], lvA, lvO, lvR, by rw [← hH, vP_sI, vP_sL, vP_sL, vP_sL, vP_sL, vP_sL, vP_sL, vP_sL, vP_sL, vP_sI, vP_sI, vP_ne (by omega), vP_ne (by omega), vP_nN (by omega), vP_sL, vP_sL, vP_sL, vP_sL, vP_sI, vPs], by rw [← hH, vP_sI, vP_sL, vP_sL, vP_sL, vP_sL, vP_sL, vP_sL, vP_sL, vP_sL, vP_sI, vP_sI, vP_ne (by omega), vPs], c0, fun j b hj hb => ?_, fun j hj hb => ?_⟩
          · rw [show vP H (3000 + i) j = none by rw [← hH, vP_sI, vP_sL, vP_sL, vP_sL, vP_sL, vP_sL, vP_sL, vP_sL, vP_sL, vP_sI, vP_sI, vP_ne (by omega), vP_ne (by omega), vP_NN]] at hb
            cases hb
          · rw [fZ _ (by omega)]; exact f4.2.2.2 j hj
        · obtain ⟨a1, a2, a3, a4, a5, a6, a7, a8, a9⟩ := s3 i (by omega)
          refine ⟨by rw [fP 2 _ (by omega)]; exact a1, by rw [fZ _ (by omega)]; exact a2, by rw [fZ _ (by omega)]; exact a3, by rw [fZ _ (by omega)]; exact a4, by rw [fP _ _ (by omega)]; exact a5, by rw [fP _ _ (by omega)]; exact a6, by rw [fI _ _ (by omega)]; exact a7, fun j b hj hb => ?_, fun j hj hb => ?_⟩
          · rw [fP _ _ (by omega)] at hb
            have := a8 j b hj hb
            exact ⟨this.1, by rw [fZ _ (by omega)]; exact this.2⟩
          · rw [fP _ _ (by omega)] at hb
            rw [fZ _ (by omega)]; exact a9 j hj hb
      · obtain ⟨a1, a2, a3, a4⟩ := s4 i (by omega) hi2
        exact ⟨by rw [fZ _ (by omega)]; exact a1, by rw [fZ _ (by omega)]; exact a2, by rw [fZ _ (by omega)]; exact a3, fun j hj => by rw [fZ _ (by omega)]; exact a4 j hj⟩),
    SL_up (SL_cg (ivSL hI) (fun b c => fZ b (by omega)) (fun b k c => fP b k (by omega)) (fun b k c => fI b k (by omega))) (Nat.le_succ _),
    SS_cg (ivSS hI) (fun b c => fZ b (by first | trivial | omega)) (fun b k c => fP b k (by first | trivial | omega)) (fun b k c => fI b k (by first | trivial | omega)),
    SO_cg (ivSO hI) (fun b c => fZ b (by first | trivial | omega)) (fun b k c => fP b k (by first | trivial | omega)) (fun b k c => fI b k (by first | trivial | omega)),
    MW_cg (ivMW hI) (fun b c => fZ b (by first | trivial | omega)) (fun b k c => fP b k (by first | trivial | omega)),
    ML_cg (ivML hI) (fun b c => fZ b (by first | trivial | omega)) (fun b k c => fP b k (by first | trivial | omega)) (fun b k c => fI b k (by first | trivial | omega)),
    ⟨by rw [← hH, vIs], by rw [fI _ _ (by omega)]; exact (ivCN hI).2.1, by rw [fI _ _ (by omega)]; exact (ivCN hI).2.2.1, by rw [fI _ _ (by omega)]; exact (ivCN hI).2.2.2⟩,
    NW_cg (ivNW hI) hn0 (fun b k c => fL b k (by first | trivial | omega)),
    ⟨by have := (ivNC hI).1; omega, by have := (ivNC hI).2.1; omega, (ivNC hI).2.2⟩,
    (fun j hj => by
      by_cases z : j = nm
      · rw [z, c1, m103]
      · rw [fI _ _ (by omega), fI _ _ (by omega)]; exact iv103 hI j (by omega)),
    (fun j hj => by
      by_cases z : j = nm
      · rw [z, c7, m114]
      · rw [fI _ _ (by omega), fI _ _ (by omega)]; exact iv114 hI j (by omega)),
    (fun j hj => by
      by_cases z : j = nm
      · rw [z, c14, m117]
      · rw [fI _ _ (by omega), fI _ _ (by omega)]; exact iv117 hI j (by omega)),
    (fun j hj => by
      by_cases z : j = nm
      · rw [z, c15, m118]
      · rw [fI _ _ (by omega), fI _ _ (by omega)]; exact iv118 hI j (by omega)),
    (fun j hj => by
      by_cases z : j = nm
      · rw [z, c2, m104]
      · rw [fI _ _ (by omega), fL _ _ (by omega)]; exact iv104 hI j (by omega)),
    (fun j hj => by
      by_cases z : j = nm
      · rw [z, c3, m105]
      · rw [fI _ _ (by omega), fL _ _ (by omega)]; exact iv105 hI j (by omega)),
    (fun j hj => by
      by_cases z : j = nm
      · rw [z, c4, m106]
      · rw [fL _ _ (by omega), fL _ _ (by omega)]; exact iv106 hI j (by omega)),
    (fun j hj => by
      by_cases z : j = nm
      · rw [z, c5, m107]; rfl
      · rw [fI _ _ (by omega), fL _ _ (by omega)]; exact iv107 hI j (by omega)),
    (fun j hj => by
      by_cases z : j = nm
      · rw [z, c6, m108]; rfl
      · rw [fI _ _ (by omega), fL _ _ (by omega)]; exact iv108 hI j (by omega)),
    (fun j hj => by
      by_cases z : j = nm
      · rw [z, c10, m112]
      · rw [fL _ _ (by omega), fL _ _ (by omega)]; exact iv112 hI j (by omega)),
    (fun j hj => by
      by_cases z : j = nm
      · rw [z, c11, m113]
      · rw [fL _ _ (by omega), fL _ _ (by omega)]; exact iv113 hI j (by omega)),
    (fun j hj => by
      by_cases z : j = nm
      · rw [z, c12, m115]
      · rw [fL _ _ (by omega), fL _ _ (by omega)]; exact iv115 hI j (by omega)),
    (fun j hj => by
      by_cases z : j = nm
      · rw [z, c13, m116]
      · rw [fL _ _ (by omega), fL _ _ (by omega)]; exact iv116 hI j (by omega)),
    (fun j hj => by
      by_cases z : j = nm
      · rw [z, o1, o2, o3, m109, m110, m111]; exact Or.inr ⟨rfl, rfl, rfl⟩
      · rw [fI 103 _ (by omega), fL _ 1 (by omega), fL _ 2 (by omega), fL _ 3 (by omega), fL 109 _ (by omega), fL 110 _ (by omega), fL 111 _ (by omega)]; exact ivOW hI j (by omega)),
    hRG,
    (fun j hj => by
      by_cases z : j = nm
      · rw [z, mc, m109, m110, m111, m112, m113, m115, m116]
        have b0 : inB (n + 1) (0 : Int64) := by unfold inB Bn; show _ ≤ (0 : Int) ∧ (0 : Int) ≤ _; omega
        have b1 : inB (n + 1) (vL h 100 0 - Int32.toInt64 e) := by unfold inB Bn; rw [l1]; omega
        have b2 : inB (n + 1) (vL h 100 0 + Int32.toInt64 e) := by unfold inB Bn; rw [l2]; omega
        exact ⟨⟨Int.le_refl _, Int.le_refl _⟩, ⟨Int.le_refl _, Int.le_refl _⟩, b1, b2, b1, b0, b0⟩
      · rw [fL 109 _ (by omega), fL 110 _ (by omega), fL 111 _ (by omega), fL 112 _ (by omega), fL 113 _ (by omega), fL 115 _ (by omega), fL 116 _ (by omega), eC' j (by omega)]
        exact RB_cg (n' := n + 1) (ivRB hI) hn0 (fun i hi => Int.le_refl _) (fun _ _ _ => rfl) j (by omega)),
    (fun j hj hj2 => by rw [fI 114 _ (by omega), fI 117 _ (by omega), fI 118 _ (by omega), fL 111 _ (by omega), fL 112 _ (by omega), fL 113 _ (by omega), fL 116 _ (by omega)]; exact ivRZ hI j (by omega) hj2),
    (fun i j hi hj => by
      by_cases z : i = nm
      · subst z
        refine Or.inl ⟨by rw [fI _ _ (by omega)]; exact ivHZ hI i j (Nat.le_refl _) hnm hj, ?_⟩
        unfold hsp
        rw [show vP H (3000 + i) j = none by rw [← hH, vP_sI, vP_sL, vP_sL, vP_sL, vP_sL, vP_sL, vP_sL, vP_sL, vP_sL, vP_sI, vP_sI, vP_ne (by omega), vP_ne (by omega), vP_NN]]
      · have hM := ivSM hI
        have eH := hsp_cg (h := h) (h' := H) (SM_hb hM (by omega) hj) (fP (3000 + i) j (by omega)) (fun b hb => fI b 0 (by omega))
        rcases ivHD hI i j (by omega) hj with ⟨a1, a2⟩ | a
        · exact Or.inl ⟨by rw [fI _ _ (by omega)]; exact a1, by rw [eH]; exact a2⟩
        · exact Or.inr (HH_cg a hn0 (Nat.le_succ _) (by omega) hj (eC i (by omega)) (fI _ _ (by omega)) eH (fun b k hb => fL b k (by omega)))),
    (fun i j hi hi2 hj => by rw [fI _ _ (by omega)]; exact ivHZ hI i j (by omega) hi2 hj),
    LT_cg (ivLT hI) hn0 (Nat.le_succ _) hl eC (fun b k c => fP b k (by omega)) (fun b k c => fI b k (by omega)) (fun b k c => fL b k (by omega)),
    RS_cg (ivRS hI) hn0 (fun b k c => fI b k (by first | trivial | omega)) (fun b k c => fL b k (by first | trivial | omega)),
    EV_cg (ivEV hI) hn0 (fun b k c => fL b k (by first | trivial | omega)),
    EZ_cg (ivEZ hI) (fun b k c => fI b k (by first | trivial | omega)),
    DS_cg (ivDS hI) (fun b k c => fI b k (by first | trivial | omega)) (fun b k c => fL b k (by first | trivial | omega))⟩
