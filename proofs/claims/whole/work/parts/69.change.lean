/-! the calls that change rows: both sides -/
theorem okr_lem {up down : Int32} (hu : 1 ≤ up.toInt ∧ up.toInt ≤ 100000) (hd : 1 ≤ down.toInt ∧ down.toInt ≤ 100000) : ab64 (Int32.toInt64 up - Int32.toInt64 down) = ofM up down := by
  have e1 : (Int32.toInt64 up - Int32.toInt64 down).toInt = up.toInt - down.toInt := by rw [L_sub (by rw [wid, wid]; omega) (by rw [wid, wid]; omega), wid, wid]
  have e2 : (Int32.toInt64 down - Int32.toInt64 up).toInt = down.toInt - up.toInt := by rw [L_sub (by rw [wid, wid]; omega) (by rw [wid, wid]; omega), wid, wid]
  unfold ab64 ofM
  by_cases q : down.toInt < up.toInt
  · rw [if_pos q, if_pos (by rw [i64_le, e1]; show (0 : Int) ≤ _; omega)]
  · rw [if_neg q]
    by_cases z : (0 : Int64) ≤ Int32.toInt64 up - Int32.toInt64 down
    · rw [if_pos z]
      rw [i64_le, e1] at z
      have z : (0 : Int) ≤ up.toInt - down.toInt := z
      rw [i64_eq, e1, e2]; omega
    · rw [if_neg z, i64_eq, L_neg (by rw [e1]; omega), e1, e2]; omega
theorem uw_iff {n : Nat} {h : HP} {nm l f t : Nat} (a : L1 n h nm l f t) : uw h (5000 + l) ↔ mUw h l := by
  have e := a.2.2.2.2.2.1
  unfold uw mUw
  rw [e.1, i32_eq, i32_eq]
  show (_ = (0 : Int) ∨ _ = (1 : Int)) ↔ _
  omega
set_option maxRecDepth 20000 in
theorem op_go {g : GG} {n : Nat} {h : HP} {nm nl ns ne nk : Nat} {fr to : Nat → Nat} {E : Nat → Nat → Prop} (hI : IV n h nm nl ns ne nk fr to E) (hn : n < 64) (x : Int32) : CT g mX6_go [.ref 1, .int x] h (O2 g mX7_go [.ref 100, .int x] n) := by
  have e1 := (ivNW hI).1
  have w0 := (ivNW hI).2.1
  have w1 := (ivNW hI).2.2
  have hok : okGo h x ↔ okGm h x := by unfold okGo okGm; rw [e1]
  refine ct_go x (ivSR hI) (fun z => O2_of rfl (cm_go x (ivMW hI) (fun _ => ⟨rfl, inv_up hI⟩) (fun w => absurd (hok.mpr w) z))) (fun z => ?_)
  rw [e1]
  have hME := (show ME h (sL h (1) (0) (vL h 100 0 + Int32.toInt64 x)) from ⟨(fun b k c => by rw [vI_sL]), (fun b k c => by rw [vL_ne (by omega)]), (fun b k c => by rw [vP_sL]), (fun b c => by rw [liv_sL])⟩)
  have e2 := hME.2.1 100 0 (by omega)
  have z2 : okGm (sL h 1 0 (vL h 100 0 + Int32.toInt64 x)) x := by unfold okGm; rw [e2]; exact hok.mp z
  refine O2_of rfl (cm_go x (ME_W hME (ivMW hI)) (fun w => absurd z2 w) (fun _ => ?_))
  rw [e2]
  have e3 : (vL h 100 0 + Int32.toInt64 x).toInt = (vL h 100 0).toInt + x.toInt := by
    have := z.1; have := z.2.1
    rw [L_add (by rw [wid]; omega) (by rw [wid]; omega), wid]
  exact ⟨rfl, ⟨nm, nl, ns, ne, nk, fr, to, E, iv_go hI hn _ (by have := z.1; omega) (by have := z.2.1; omega)⟩⟩
set_option maxRecDepth 20000 in
theorem op_lie {g : GG} {n : Nat} {h : HP} {nm nl ns ne nk : Nat} {fr to : Nat → Nat} {E : Nat → Nat → Prop} (hI : IV n h nm nl ns ne nk fr to E) (hn : n < 64) (x : Int32) (lo hi : Int64) : CT g mX6_lie [.ref 1, .int x, .long lo, .long hi] h (O2 g mX7_lie [.ref 100, .int x, .long lo, .long hi] n) := by
  have hm := ivnm hI
  by_cases hx : inR x nm
  · obtain ⟨i, hi0, rfl⟩ := inR_ex hx (by omega)
    have hok : okLi h (1000 + i) lo hi ↔ okLm h i lo hi := by unfold okLi okLm; rw [iv103 hI i hi0]
    refine ct_lie nm i (ivSR hI) (ivSM hI) hi0 lo hi (fun z => O2_of rfl (cm_lie nm (ivMW hI) (ivCN hI).1 (ivnm hI) i hi0 lo hi (fun _ => ⟨rfl, inv_up hI⟩) (fun w => absurd (hok.mpr w) z))) (fun z => ?_)
    have hME := (show ME h (sL (sL h (1000 + i) (10) (lo)) (1000 + i) (11) (hi)) from ⟨(fun b k c => by rw [vI_sL, vI_sL]), (fun b k c => by rw [vL_ne (by omega), vL_ne (by omega)]), (fun b k c => by rw [vP_sL, vP_sL]), (fun b c => by rw [liv_sL, liv_sL])⟩)
    have z2 : okLm (sL (sL h (1000 + i) 10 lo) (1000 + i) 11 hi) i lo hi := by unfold okLm; rw [hME.1 103 i (by omega)]; exact hok.mp z
    obtain ⟨_, y1, y2, y3⟩ := z
    refine O2_of rfl (cm_lie nm (ME_W hME (ivMW hI)) (ME_C hME (ivCN hI)).1 hm i hi0 lo hi (fun w => absurd z2 w) (fun _ => ⟨rfl, ⟨nm, nl, ns, ne, nk, fr, to, E, iv_lie hI i hi0 lo hi ?_ ?_⟩⟩))
    · unfold inB Bn; omega
    · unfold inB Bn; omega
  · exact ct_lie0 lo hi nm x (ivSR hI) (ivSM hI) hx (O2_of rfl (cm_lie0 lo hi nm (ivMW hI) (ivCN hI).1 (ivnm hI) x hx ⟨rfl, inv_up hI⟩))
set_option maxRecDepth 20000 in
theorem op_rest {g : GG} {n : Nat} {h : HP} {nm nl ns ne nk : Nat} {fr to : Nat → Nat} {E : Nat → Nat → Prop} (hI : IV n h nm nl ns ne nk fr to E) (hn : n < 64) (x b : Int32) (hb : b = 0 ∨ b = 1) : CT g mX6_rest [.ref 1, .int x, .int b] h (O2 g mX7_rest [.ref 100, .int x, .int b] n) := by
  have hm := ivnm hI
  by_cases hx : inR x nm
  · obtain ⟨i, hi0, rfl⟩ := inR_ex hx (by omega)
    have e := iv103 hI i hi0
    refine ct_rest nm i (ivSR hI) (ivSM hI) hi0 b hb (fun z => O2_of rfl (cm_rest nm (ivMW hI) (ivCN hI).1 (ivnm hI) i hi0 b hb (fun _ => ⟨rfl, inv_up hI⟩) (fun w => absurd (by rw [← e]; exact z) w))) (fun z => ?_)
    have hME := (show ME h (sI h (1000 + i) (7) (b)) from ⟨(fun b k c => by rw [vI_ne (by omega)]), (fun b k c => by rw [vL_sI]), (fun b k c => by rw [vP_sI]), (fun b c => by rw [liv_sI])⟩)
    exact O2_of (by rw [iv114 hI i hi0, ← hME.1 114 i (by omega)]) (cm_rest nm (ME_W hME (ivMW hI)) (ME_C hME (ivCN hI)).1 hm i hi0 b hb (fun w => absurd (by rw [hME.1 103 i (by omega), ← e] at w; exact w) z) (fun _ => ⟨rfl, ⟨nm, nl, ns, ne, nk, fr, to, E, iv_rest hI i hi0 b hb⟩⟩))
  · exact ct_rest0 b nm x (ivSR hI) (ivSM hI) hx (O2_of rfl (cm_rest0 b nm (ivMW hI) (ivCN hI).1 (ivnm hI) x hx ⟨rfl, inv_up hI⟩))
set_option maxRecDepth 20000 in
theorem op_rate {g : GG} {n : Nat} {h : HP} {nm nl ns ne nk : Nat} {fr to : Nat → Nat} {E : Nat → Nat → Prop} (hI : IV n h nm nl ns ne nk fr to E) (hn : n < 64) (x up down : Int32) : CT g mX6_rate [.ref 1, .int x, .int up, .int down] h (O2 g mX7_rate [.ref 100, .int x, .int up, .int down] n) := by
  have hm := ivnm hI
  by_cases hx : inR x nm
  · obtain ⟨i, hi0, rfl⟩ := inR_ex hx (by omega)
    have hok : okRt h (1000 + i) up down ↔ okRm h i up down := by unfold okRt okRm; rw [iv106 hI i hi0, (ivNW hI).1]
    have hME := (show ME h (sI (sI h (1000 + i) (5) (up)) (1000 + i) (6) (down)) from ⟨(fun b k c => by rw [vI_ne (by omega), vI_ne (by omega)]), (fun b k c => by rw [vL_sI, vL_sI]), (fun b k c => by rw [vP_sI, vP_sI]), (fun b c => by rw [liv_sI, liv_sI])⟩)
    have hok1 : okRm (sI (sI h (1000 + i) 5 up) (1000 + i) 6 down) i up down ↔ okRm h i up down := by unfold okRm; rw [hME.2.1 106 i (by omega), hME.2.1 100 0 (by omega)]
    have hin : okRm h i up down → (inRt (Int32.toInt64 (vI h (1000 + i) 2)) (Int32.toInt64 up) (Int32.toInt64 down) ↔ inRm (sI (sI h (1000 + i) 5 up) (1000 + i) 6 down) i up down) := fun z => by
      unfold inRt inRm
      rw [okr_lem ⟨z.1, z.2.1⟩ ⟨z.2.2.1, z.2.2.2.1⟩, iv104 hI i hi0, hME.2.1 104 i (by omega)]
    refine ct_rate nm i (ivSR hI) (ivSM hI) hi0 up down (fun z => O2_of rfl (cm_rate nm (ivMW hI) (ivCN hI).1 (ivnm hI) i hi0 up down (fun _ => ⟨rfl, inv_up hI⟩) (fun w => absurd (hok.mpr w) z) (fun w => absurd (hok.mpr w) z))) (fun z y => ?_) (fun z y => ?_)
    · have z' := hok.mp z
      exact O2_of rfl (cm_rate nm (ME_W hME (ivMW hI)) (ME_C hME (ivCN hI)).1 hm i hi0 up down (fun w => absurd (hok1.mpr z') w) (fun _ _ => ⟨rfl, ⟨nm, nl, ns, ne, nk, fr, to, E, iv_rate hI hn i hi0 up down ⟨z'.1, z'.2.1⟩ ⟨z'.2.2.1, z'.2.2.2.1⟩ z'.2.2.2.2⟩⟩) (fun _ w => absurd ((hin z').mp y) w))
    · have z' := hok.mp z
      exact O2_of rfl (cm_rate nm (ME_W hME (ivMW hI)) (ME_C hME (ivCN hI)).1 hm i hi0 up down (fun w => absurd (hok1.mpr z') w) (fun _ w => absurd ((hin z').mpr w) y) (fun _ _ => ⟨rfl, ⟨nm, nl, ns, ne, nk, fr, to, E, iv_rate hI hn i hi0 up down ⟨z'.1, z'.2.1⟩ ⟨z'.2.2.1, z'.2.2.2.1⟩ z'.2.2.2.2⟩⟩))
  · exact ct_rate0 up down nm x (ivSR hI) (ivSM hI) hx (O2_of rfl (cm_rate0 up down nm (ivMW hI) (ivCN hI).1 (ivnm hI) x hx ⟨rfl, inv_up hI⟩))
set_option maxRecDepth 20000 in
theorem op_member {g : GG} {n : Nat} {h : HP} {nm nl ns ne nk : Nat} {fr to : Nat → Nat} {E : Nat → Nat → Prop} (hI : IV n h nm nl ns ne nk fr to E) (hn : n < 64) (kd1 p e : Int32) : CT g mX6_member [.ref 1, .int kd1, .int p, .int e] h (O2 g mX7_member [.ref 100, .int kd1, .int p, .int e] n) := by
  have hm := ivnm hI
  refine ct_member nm kd1 p e (ivSR hI) (ivSM hI) (fun z => O2_of rfl (cm_member nm (ivMW hI) (ivCN hI).1 (ivnm hI) kd1 p e (fun _ => ⟨rfl, inv_up hI⟩) (fun w => absurd w z))) (fun z => ?_)
  unfold mbH mbN mb2 spP mb1
  rw [(ivNW hI).1]
  have hME := (show ME h (sI (sP (sP (sN (sL (sL (sL (sL (sI (sP (sN (sI (sI (sL (sI (sI (sI (sI (sN h (1000 + nm)) (1000 + nm) (0) (nI nm)) (1000 + nm) (1) (kd1)) (1000 + nm) (2) (p)) (1000 + nm) (3) (e)) (1000 + nm) (4) (vL h 100 0)) (1000 + nm) (5) (1)) (1000 + nm) (6) (1)) (2000 + nm)) (1000 + nm) (8) (some (2000 + nm))) (2000 + nm) (0) (1)) (2000 + nm) (1) (vL h 100 0 - Int32.toInt64 e)) (2000 + nm) (2) (vL h 100 0 + Int32.toInt64 e)) (2000 + nm) (3) (0)) (1000 + nm) (12) (vL h 100 0 - Int32.toInt64 e)) (3000 + nm)) (1000 + nm) (9) (some (3000 + nm))) (2) (nm) (some (1000 + nm))) (1) (2) (nI (nm + 1))) from ⟨(fun b k c => by rw [vI_ne (by omega), vI_sP, vI_sP, vI_nN (by omega), vI_sL, vI_sL, vI_sL, vI_sL, vI_ne (by omega), vI_sP, vI_nN (by omega), vI_ne (by omega), vI_ne (by omega), vI_sL, vI_ne (by omega), vI_ne (by omega), vI_ne (by omega), vI_ne (by omega), vI_nN (by omega)]), (fun b k c => by rw [vL_sI, vL_sP, vL_sP, vL_nN (by omega), vL_ne (by omega), vL_ne (by omega), vL_ne (by omega), vL_ne (by omega), vL_sI, vL_sP, vL_nN (by omega), vL_sI, vL_sI, vL_ne (by omega), vL_sI, vL_sI, vL_sI, vL_sI, vL_nN (by omega)]), (fun b k c => by rw [vP_sI, vP_ne (by omega), vP_ne (by omega), vP_nN (by omega), vP_sL, vP_sL, vP_sL, vP_sL, vP_sI, vP_ne (by omega), vP_nN (by omega), vP_sI, vP_sI, vP_sL, vP_sI, vP_sI, vP_sI, vP_sI, vP_nN (by omega)]), (fun b c => by rw [liv_sI, liv_sP, liv_sP, liv_other (by omega), liv_sL, liv_sL, liv_sL, liv_sL, liv_sI, liv_sP, liv_other (by omega), liv_sI, liv_sI, liv_sL, liv_sI, liv_sI, liv_sI, liv_sI, liv_other (by omega)])⟩)
  refine O2_of rfl (cm_member nm (ME_W hME (ivMW hI)) (ME_C hME (ivCN hI)).1 hm kd1 p e (fun w => absurd z w) (fun _ => ?_))
  unfold mmH
  rw [hME.2.1 100 0 (by omega)]
  obtain ⟨y1, y2, y3, y4, y5, y6, y7⟩ := z
  exact ⟨rfl, ⟨nm + 1, nl, ns, ne, nk, fr, to, E, iv_member hI hn y7 kd1 p e ⟨y1, y2⟩ ⟨y3, y4⟩ ⟨y5, y6⟩⟩⟩
theorem clamp_eq {b lo hi : Int64} (h : lo.toInt ≤ hi.toInt) : mn64 (mx64 b lo) hi = (if b.toInt < lo.toInt then lo else if hi.toInt < b.toInt then hi else b) := by
  by_cases q : b.toInt < lo.toInt
  · have e : mx64 b lo = lo := if_neg (by rw [i64_le]; omega)
    rw [e, if_pos q]
    exact if_pos (by rw [i64_le]; exact h)
  · have e : mx64 b lo = b := if_pos (by rw [i64_le]; omega)
    rw [e, if_neg q]
    by_cases w : hi.toInt < b.toInt
    · rw [if_pos w]; exact if_neg (by rw [i64_le]; omega)
    · rw [if_neg w]; exact if_pos (by rw [i64_le]; omega)
theorem ME_le {h h1 : HP} (e : ME h h1) (i : Nat) (ld : Int32) : leS h1 i ld = leS h i ld := by
  unfold leS leB leK leG; rw [(ME_f e i).1, (ME_f e i).2.1, (ME_f e i).2.2.1, e.2.1 115 i (by omega), e.2.1 116 i (by omega)]
theorem lead_eq {n : Nat} {h : HP} {nm nl ns ne nk : Nat} {fr to : Nat → Nat} {E : Nat → Nat → Prop} (hI : IV n h nm nl ns ne nk fr to E) (hn : n < 64) {i : Nat} (hi : i < nm) {ld : Int32} (h0 : 0 ≤ ld.toInt) (h1 : ld.toInt ≤ 1000) : ldS h (1000 + i) (2000 + i) (vL h 1 0) ld = vL h 115 i + leS h i ld ∧ inB (n + 1) (vL h 115 i + leS h i ld) := by
  have e1 := cCn_eq hI hi
  have hR := ivRG hI
  have hc := mCn_b (by omega) (ivNW hI) hR hi
  obtain ⟨_, b2, _, _, b5, _⟩ := ivRB hI i hi
  have eG : (leG h i).toInt = (mCn h i).toInt - (vL h 116 i).toInt := gone_i b2.1 b2.2
  have g0 : 0 ≤ (leG h i).toInt := by omega
  have g1 : (leG h i).toInt ≤ 6400000000000 := by omega
  have m0 : 0 ≤ (leG h i).toInt * ld.toInt := Int.mul_nonneg g0 h0
  have m1 : (leG h i).toInt * ld.toInt ≤ (leG h i).toInt * 1000 := Int.mul_le_mul_of_nonneg_left h1 g0
  have eK : (leK h i ld).toInt = (leG h i).toInt * ld.toInt / 1000 := by
    unfold leK
    rw [flo_i (by decide), L_mul (by rw [wid]; omega) (by rw [wid]; omega), wid]; rfl
  have k0 : 0 ≤ (leK h i ld).toInt := by rw [eK]; omega
  have k1 : (leK h i ld).toInt ≤ (leG h i).toInt := by rw [eK]; omega
  have eS : (leG h i - leK h i ld).toInt = (leG h i).toInt - (leK h i ld).toInt := L_sub (by omega) (by omega)
  have eA : (leG h i + leK h i ld).toInt = (leG h i).toInt + (leK h i ld).toInt := L_add (by omega) (by omega)
  have hl : ldG h (1000 + i) (vL h 1 0) = leG h i := by unfold ldG leG; rw [e1, iv116 hI i hi]
  have hk : ldK h (1000 + i) (vL h 1 0) ld = leK h i ld := by unfold ldK leK; rw [hl, floO_eq (by decide)]
  have hb : floO (cLo h (1000 + i) (2000 + i) (vL h 1 0) + cHi h (1000 + i) (2000 + i) (vL h 1 0)) 2 - vL h 115 i = leB h i := by unfold leB; rw [cLo_eq hI hi, cHi_eq hI hi, floO_eq (by decide)]
  have key : mn64 (mx64 (leB h i) (leG h i - leK h i ld)) (leG h i + leK h i ld) = leS h i ld ∧ -17592186044416 ≤ (leS h i ld).toInt ∧ (leS h i ld).toInt ≤ 17592186044416 := by
    have e : mn64 (mx64 (leB h i) (leG h i - leK h i ld)) (leG h i + leK h i ld) = leS h i ld := clamp_eq (by omega)
    refine ⟨e, ?_⟩
    unfold leS
    split
    · omega
    · split
      · omega
      · omega
  refine ⟨?_, (inB_add (by omega) b5 key.2.1 key.2.2).1⟩
  unfold ldS
  rw [iv115 hI i hi, hl, hk, hb, key.1]
set_option maxRecDepth 20000 in
theorem op_lead {g : GG} {n : Nat} {h : HP} {nm nl ns ne nk : Nat} {fr to : Nat → Nat} {E : Nat → Nat → Prop} (hI : IV n h nm nl ns ne nk fr to E) (hn : n < 64) (x ld : Int32) : CT g mX6_lead [.ref 1, .int x, .int ld] h (O2 g mX7_lead [.ref 100, .int x, .int ld] n) := by
  have hm := ivnm hI
  by_cases hx : inR x nm
  · obtain ⟨i, hi0, rfl⟩ := inR_ex hx (by omega)
    have hok : okLd h (1000 + i) ld ↔ okLe h i ld := by unfold okLd okLe; rw [iv114 hI i hi0]
    refine ct_lead nm i (ivSR hI) (ivSM hI) hi0 ld (fun z => O2_of rfl (cm_lead nm (ivMW hI) (ivCN hI).1 (ivnm hI) i hi0 (DV_of (ivRG hI) hi0) ld (fun _ => ⟨rfl, inv_up hI⟩) (fun w => absurd (hok.mpr w) z))) (fun z => ?_)
    have L := lead_eq hI hn hi0 z.1 z.2.1
    rw [cCn_eq hI hi0, L.1]
    have hME := (show ME h (sL (sL h (1000 + i) (12) (vL h 115 i + leS h i ld)) (1000 + i) (13) (mCn h i)) from ⟨(fun b k c => by rw [vI_sL, vI_sL]), (fun b k c => by rw [vL_ne (by omega), vL_ne (by omega)]), (fun b k c => by rw [vP_sL, vP_sL]), (fun b c => by rw [liv_sL, liv_sL])⟩)
    have F := ME_f hME i
    have z2 : okLe (sL (sL h (1000 + i) 12 (vL h 115 i + leS h i ld)) (1000 + i) 13 (mCn h i)) i ld := by unfold okLe; rw [hME.1 114 i (by omega)]; exact hok.mp z
    have eS := ME_le hME i ld
    refine O2_of ?_ (cm_lead nm (ME_W hME (ivMW hI)) (ME_C hME (ivCN hI)).1 hm i hi0 (F.2.2.2.2.2 (DV_of (ivRG hI) hi0)) ld (fun w => absurd z2 w) (fun _ => ⟨rfl, ?_⟩))
    · rw [eS, hME.2.1 115 i (by omega)]
    · unfold leH
      rw [eS, hME.2.1 115 i (by omega), F.1]
      exact ⟨nm, nl, ns, ne, nk, fr, to, E, iv_lead hI hn i hi0 _ L.2⟩
  · exact ct_lead0 ld nm x (ivSR hI) (ivSM hI) hx (O2_of rfl (cm_lead0 ld nm (ivMW hI) (ivCN hI).1 (ivnm hI) x hx ⟨rfl, inv_up hI⟩))
set_option maxRecDepth 20000 in
theorem op_stamp {g : GG} {n : Nat} {h : HP} {nm nl ns ne nk : Nat} {fr to : Nat → Nat} {E : Nat → Nat → Prop} (hI : IV n h nm nl ns ne nk fr to E) (hn : n < 64) (x : Int32) : CT g mX6_stamp [.ref 1, .int x] h (O2 g mX7_stamp [.ref 100, .int x] n) := by
  have hm := ivnm hI
  have hs := (ivSS hI).1
  by_cases hx : inR x nm
  · obtain ⟨i, hi0, rfl⟩ := inR_ex hx (by omega)
    have mho : ∀ {h1 : HP}, ME h h1 → (mHo h1 i ↔ mHo h i) := fun e => by unfold mHo; rw [(ME_f e i).2.1, (ME_f e i).2.2.1, e.2.1 100 0 (by omega)]
    refine ct_stamp nm i (ivSR hI) (ivSM hI) hi0 ns (ivSS hI) (fun z => ?_) (fun z => ?_)
    · skip
      unfold spH stN
      rw [cLo_eq hI hi0, cHi_eq hI hi0]
      have hME := (show ME h (sI (sP (sI (sI (sL (sL (sN h (6000 + ns)) (6000 + ns) (0) (mLo h i)) (6000 + ns) (1) (mHi h i)) (6000 + ns) (2) (nI i)) (6000 + ns) (3) (1)) (4) (ns) (some (6000 + ns))) (1) (6) (nI (ns + 1))) from ⟨(fun b k c => by rw [vI_ne (by omega), vI_sP, vI_ne (by omega), vI_ne (by omega), vI_sL, vI_sL, vI_nN (by omega)]), (fun b k c => by rw [vL_sI, vL_sP, vL_sI, vL_sI, vL_ne (by omega), vL_ne (by omega), vL_nN (by omega)]), (fun b k c => by rw [vP_sI, vP_ne (by omega), vP_sI, vP_sI, vP_sL, vP_sL, vP_nN (by omega)]), (fun b c => by rw [liv_sI, liv_sP, liv_sI, liv_sI, liv_sL, liv_sL, liv_other (by omega)])⟩)
      have F := ME_f hME i
      have hho := mho hME
      refine O2_of rfl (cm_stamp nm (ME_W hME (ivMW hI)) (ME_C hME (ivCN hI)).1 hm i hi0 (F.2.2.2.2.2 (DV_of (ivRG hI) hi0)) ns (ME_C hME (ivCN hI)).2.2.1 hs (fun _ => ?_) (fun w => absurd (hho.mpr ((cHo_eq hI hi0).mp z)) w))
      unfold smH
      rw [F.2.1, F.2.2.1]
      exact ⟨rfl, ⟨nm, nl, ns + 1, ne, nk, fr, to, E, iv_stamp hI hn i 1 _ _ (mLo_b (by omega) (ivNW hI) (ivRG hI) (ivRB hI) hi0) (mHi_b (by omega) (ivNW hI) (ivRG hI) (ivRB hI) hi0)⟩⟩
    · skip
      unfold spH stN
      rw [cLo_eq hI hi0, cHi_eq hI hi0]
      have hME := (show ME h (sI (sP (sI (sI (sL (sL (sN h (6000 + ns)) (6000 + ns) (0) (mLo h i)) (6000 + ns) (1) (mHi h i)) (6000 + ns) (2) (nI i)) (6000 + ns) (3) (0)) (4) (ns) (some (6000 + ns))) (1) (6) (nI (ns + 1))) from ⟨(fun b k c => by rw [vI_ne (by omega), vI_sP, vI_ne (by omega), vI_ne (by omega), vI_sL, vI_sL, vI_nN (by omega)]), (fun b k c => by rw [vL_sI, vL_sP, vL_sI, vL_sI, vL_ne (by omega), vL_ne (by omega), vL_nN (by omega)]), (fun b k c => by rw [vP_sI, vP_ne (by omega), vP_sI, vP_sI, vP_sL, vP_sL, vP_nN (by omega)]), (fun b c => by rw [liv_sI, liv_sP, liv_sI, liv_sI, liv_sL, liv_sL, liv_other (by omega)])⟩)
      have F := ME_f hME i
      have hho := mho hME
      refine O2_of rfl (cm_stamp nm (ME_W hME (ivMW hI)) (ME_C hME (ivCN hI)).1 hm i hi0 (F.2.2.2.2.2 (DV_of (ivRG hI) hi0)) ns (ME_C hME (ivCN hI)).2.2.1 hs (fun w => absurd ((cHo_eq hI hi0).mpr (hho.mp w)) z) (fun _ => ?_))
      unfold smH
      rw [F.2.1, F.2.2.1]
      exact ⟨rfl, ⟨nm, nl, ns + 1, ne, nk, fr, to, E, iv_stamp hI hn i 0 _ _ (mLo_b (by omega) (ivNW hI) (ivRG hI) (ivRB hI) hi0) (mHi_b (by omega) (ivNW hI) (ivRG hI) (ivRB hI) hi0)⟩⟩
  · exact ct_stamp0 nm x (ivSR hI) (ivSM hI) hx (O2_of rfl (cm_stamp0 nm (ivMW hI) (ivCN hI).1 (ivnm hI) x hx ⟨rfl, inv_up hI⟩))
set_option maxRecDepth 20000 in
theorem op_event {g : GG} {n : Nat} {h : HP} {nm nl ns ne nk : Nat} {fr to : Nat → Nat} {E : Nat → Nat → Prop} (hI : IV n h nm nl ns ne nk fr to E) (hn : n < 64) (x : Int32) : CT g mX6_event [.ref 1, .int x] h (O2 g mX7_event [.ref 100, .int x] n) := by
  have hs := (ivSS hI).1
  by_cases hx : inR x ns
  · obtain ⟨k, hk, rfl⟩ := inR_ex hx (by omega)
    have hS := ivSO hI
    have a := ivRS hI k hk
    refine ct_event ns k ne (ivSR hI) (ivSS hI) hk hS.1 hS.2.1 hS.2.2.1 (fun z => O2_of rfl (cm_event ns (ivMW hI) (ivCN hI).2.2.1 hs k hk ne (ivML hI).2.1 hS.2.2.1 (fun _ => ⟨rfl, inv_up hI⟩) (fun w => by omega))) (fun z => ?_)
    rw [a.1, a.2.1]
    unfold evH
    have hME := (show ME h (sI (sI (sL (sL h (11) (ne) (vL h 132 k)) (12) (ne) (vL h 133 k)) (10) (2) (nI (ne + 1))) (10) (13) (0)) from ⟨(fun b k c => by rw [vI_ne (by omega), vI_ne (by omega), vI_sL, vI_sL]), (fun b k c => by rw [vL_sI, vL_sI, vL_ne (by omega), vL_ne (by omega)]), (fun b k c => by rw [vP_sI, vP_sI, vP_sL, vP_sL]), (fun b c => by rw [liv_sI, liv_sI, liv_sL, liv_sL])⟩)
    refine O2_of rfl (cm_event ns (ME_W hME (ivMW hI)) (ME_C hME (ivCN hI)).2.2.1 hs k hk ne (ME_L hME (ivML hI)).2.1 hS.2.2.1 (fun w => by omega) (fun _ => ?_))
    unfold evM
    rw [hME.2.1 132 k (by omega), hME.2.1 133 k (by omega)]
    exact ⟨rfl, ⟨nm, nl, ns, ne + 1, nk, fr, to, E, iv_event hI z _ _ (inB_up (Nat.le_succ n) a.2.2.2.2.1) (inB_up (Nat.le_succ n) a.2.2.2.2.2)⟩⟩
  · exact ct_event0 ns x (ivSR hI) (ivSS hI) hx (O2_of rfl (cm_event0 ns (ivMW hI) (ivCN hI).2.2.1 hs x hx ⟨rfl, inv_up hI⟩))
set_option maxRecDepth 20000 in
theorem op_link {g : GG} {n : Nat} {h : HP} {nm nl ns ne nk : Nat} {fr to : Nat → Nat} {E : Nat → Nat → Prop} (hI : IV n h nm nl ns ne nk fr to E) (hn : n < 64) (x y : Int32) : CT g mX6_link [.ref 1, .int x, .int y] h (O2 g mX7_link [.ref 100, .int x, .int y] n) := by
  have hS := ivSO hI
  have hne := hS.2.2.1
  by_cases hx : inR x ne
  · obtain ⟨e, he, rfl⟩ := inR_ex hx (by omega)
    by_cases hy : inR y ne
    · obtain ⟨k2, hk2, rfl⟩ := inR_ex hy (by omega)
      refine ct_link e k2 ne nk (ivSR hI) hS.1 hS.2.1 hne hS.2.2.2.1 hS.2.2.2.2.1 he hk2 (fun z => O2_of rfl (cm_link ne (ivMW hI) (ivML hI).2.1 hne e k2 nk he hk2 (ivCN hI).2.2.2 hS.2.2.2.2.1 (fun _ => ⟨rfl, inv_up hI⟩) (fun w1 w2 => by omega))) (fun z1 z2 => ?_)
      unfold lkH
      have hME := (show ME h (sI (sI (sI (sI (sI h (13) (nk) (nI e)) (14) (nk) (nI k2)) (15) (e) (vI h 15 e ||| 1 <<< (nI k2 &&& 31))) (10) (5) (nI (nk + 1))) (10) (13) (0)) from ⟨(fun b k c => by rw [vI_ne (by omega), vI_ne (by omega), vI_ne (by omega), vI_ne (by omega), vI_ne (by omega)]), (fun b k c => by rw [vL_sI, vL_sI, vL_sI, vL_sI, vL_sI]), (fun b k c => by rw [vP_sI, vP_sI, vP_sI, vP_sI, vP_sI]), (fun b c => by rw [liv_sI, liv_sI, liv_sI, liv_sI, liv_sI])⟩)
      refine O2_of rfl (cm_link ne (ME_W hME (ivMW hI)) (ME_L hME (ivML hI)).2.1 hne e k2 nk he hk2 (ME_C hME (ivCN hI)).2.2.2 hS.2.2.2.2.1 (fun w => by omega) (fun _ _ => ?_))
      unfold lkM
      exact ⟨rfl, ⟨nm, nl, ns, ne, nk + 1, _, _, _, iv_link hI e k2 he hk2 z1 z2⟩⟩
    · exact ct_link1 e y ne nk (ivSR hI) hS.1 hS.2.1 hne hS.2.2.2.1 he hy (O2_of rfl (cm_link1 y ne (ivMW hI) (ivML hI).2.1 hne e he hy ⟨rfl, inv_up hI⟩))
  · exact ct_link0 x y ne nk (ivSR hI) hS.1 hS.2.1 hne hS.2.2.2.1 hx (O2_of rfl (cm_link0 y ne (ivMW hI) (ivML hI).2.1 hne x hx ⟨rfl, inv_up hI⟩))
set_option maxRecDepth 20000 in
theorem op_ask {g : GG} {n : Nat} {h : HP} {nm nl ns ne nk : Nat} {fr to : Nat → Nat} {E : Nat → Nat → Prop} (hI : IV n h nm nl ns ne nk fr to E) (hn : n < 64) (x y : Int32) : CT g mX6_ask [.ref 1, .int x, .int y] h (O2 g mX7_ask [.ref 100, .int x, .int y] n) := by
  have hm := ivnm hI
  have hl := (ivSL hI).1
  by_cases hx : inR x nm
  · obtain ⟨i, hi0, rfl⟩ := inR_ex hx (by omega)
    by_cases hy : inR y nm
    · obtain ⟨j, hj, rfl⟩ := inR_ex hy (by omega)
      have hok : okAs h i j ↔ okAm h i j := by unfold okAs okAm; rw [iv103 hI i hi0, iv114 hI i hi0]
      refine ct_ask nm i (ivSR hI) (ivSM hI) hi0 nl j (ivSL hI) hj (fun z => O2_of rfl (cm_ask nm (ivMW hI) (ivCN hI).1 (ivnm hI) i hi0 (DV_of (ivRG hI) hi0) j hj nl (ivCN hI).2.1 hl (fun _ => ⟨rfl, inv_up hI⟩) (fun w => absurd (hok.mpr w) z))) (fun z => ?_)
      unfold asH alH ltN
      rw [cCn_eq hI hi0]
      have hME := (show ME h (sI (sP (sI (sL (sP (sP (sN h (5000 + nl)) (5000 + nl) (0) (some (1000 + i))) (5000 + nl) (1) (some (1000 + j))) (5000 + nl) (2) (mCn h i)) (5000 + nl) (3) (0)) (3) (nl) (some (5000 + nl))) (1) (4) (nI (nl + 1))) from ⟨(fun b k c => by rw [vI_ne (by omega), vI_sP, vI_ne (by omega), vI_sL, vI_sP, vI_sP, vI_nN (by omega)]), (fun b k c => by rw [vL_sI, vL_sP, vL_sI, vL_ne (by omega), vL_sP, vL_sP, vL_nN (by omega)]), (fun b k c => by rw [vP_sI, vP_ne (by omega), vP_sI, vP_sL, vP_ne (by omega), vP_ne (by omega), vP_nN (by omega)]), (fun b c => by rw [liv_sI, liv_sP, liv_sI, liv_sL, liv_sP, liv_sP, liv_other (by omega)])⟩)
      have F := ME_f hME i
      have z2 : okAm (sI (sP (sI (sL (sP (sP (sN h (5000 + nl)) (5000 + nl) (0) (some (1000 + i))) (5000 + nl) (1) (some (1000 + j))) (5000 + nl) (2) (mCn h i)) (5000 + nl) (3) (0)) (3) (nl) (some (5000 + nl))) (1) (4) (nI (nl + 1))) i j := by unfold okAm; rw [hME.1 103 i (by omega), hME.1 114 i (by omega)]; exact hok.mp z
      refine O2_of rfl (cm_ask nm (ME_W hME (ivMW hI)) (ME_C hME (ivCN hI)).1 hm i hi0 (F.2.2.2.2.2 (DV_of (ivRG hI) hi0)) j hj nl (ME_C hME (ivCN hI)).2.1 hl (fun w => absurd z2 w) (fun _ => ?_))
      unfold amH
      rw [F.1]
      exact ⟨rfl, ⟨nm, nl + 1, ns, ne, nk, fr, to, E, iv_ask hI hn i j hi0 hj z.1⟩⟩
    · exact ct_ask1 nm i (ivSR hI) (ivSM hI) hi0 y hy (O2_of rfl (cm_ask1 y nm (ivMW hI) (ivCN hI).1 (ivnm hI) i hi0 hy ⟨rfl, inv_up hI⟩))
  · by_cases hy : inR y nm
    · obtain ⟨j, hj, rfl⟩ := inR_ex hy (by omega)
      exact ct_ask0b nm x (ivSR hI) (ivSM hI) hx j hj (O2_of rfl (cm_ask0 _ nm (ivMW hI) (ivCN hI).1 (ivnm hI) x hx ⟨rfl, inv_up hI⟩))
    · exact ct_ask0a nm x y (ivSR hI) (ivSM hI) hx hy (O2_of rfl (cm_ask0 y nm (ivMW hI) (ivCN hI).1 (ivnm hI) x hx ⟨rfl, inv_up hI⟩))
set_option maxRecDepth 20000 in
theorem op_lose {g : GG} {n : Nat} {h : HP} {nm nl ns ne nk : Nat} {fr to : Nat → Nat} {E : Nat → Nat → Prop} (hI : IV n h nm nl ns ne nk fr to E) (hn : n < 64) (x : Int32) : CT g mX6_lose [.ref 1, .int x] h (O2 g mX7_lose [.ref 100, .int x] n) := by
  have hm := ivnm hI
  have hl := (ivSL hI).1
  by_cases hx : inR x nl
  · obtain ⟨l, hl0, rfl⟩ := inR_ex hx (by omega)
    obtain ⟨f, t, a⟩ := ivLT hI l hl0
    have hu := uw_iff a
    by_cases u : uw h (5000 + l)
    · have u2 := hu.mp u
      refine ct_lose nm nl l (ivSR hI) (ivSL hI) hl0 u ?_
      have hME := (show ME h (sI h (5000 + l) (3) (3)) from ⟨(fun b k c => by rw [vI_ne (by omega)]), (fun b k c => by rw [vL_sI]), (fun b k c => by rw [vP_sI]), (fun b c => by rw [liv_sI])⟩)
      have u3 : mUw (sI h (5000 + l) 3 3) l := by unfold mUw; rw [hME.1 126 l (by omega)]; exact u2
      exact O2_of rfl (cm_lose nl (ME_W hME (ivMW hI)) (ME_C hME (ivCN hI)).2.1 hl l hl0 u3 ⟨rfl, ⟨nm, nl, ns, ne, nk, fr, to, E, iv_state hI l hl0 3 (by decide) (by decide)⟩⟩)
    · exact ct_lose1 nm nl l (ivSR hI) (ivSL hI) hl0 u (O2_of rfl (cm_lose1 nl (ivMW hI) (ivCN hI).2.1 hl l hl0 (fun w => u (hu.mpr w)) ⟨rfl, inv_up hI⟩))
  · exact ct_lose0 nm nl x (ivSR hI) (ivSL hI) hx (O2_of rfl (cm_lose0 nl (ivMW hI) (ivCN hI).2.1 hl x hx ⟨rfl, inv_up hI⟩))
set_option maxRecDepth 20000 in
theorem op_twice {g : GG} {n : Nat} {h : HP} {nm nl ns ne nk : Nat} {fr to : Nat → Nat} {E : Nat → Nat → Prop} (hI : IV n h nm nl ns ne nk fr to E) (hn : n < 64) (x : Int32) : CT g mX6_twice [.ref 1, .int x] h (O2 g mX7_twice [.ref 100, .int x] n) := by
  have hm := ivnm hI
  have hl := (ivSL hI).1
  by_cases hx : inR x nl
  · obtain ⟨l, hl0, rfl⟩ := inR_ex hx (by omega)
    obtain ⟨f, t, a⟩ := ivLT hI l hl0
    have hu := uw_iff a
    by_cases u : uw h (5000 + l)
    · have u2 := hu.mp u
      obtain ⟨a1, a2, a3, a4, a5, a6, a7, a8, a9⟩ := a
      have hans : vI h 128 l = 0 ∨ vI h 128 l = 1 := a9.elim (fun z => Or.inl z.1) (fun z => Or.inr z.1)
      refine ct_twice nm nl l (ivSR hI) (ivSL hI) hl0 f t a4.1 a4.2 u (by rw [a8]; exact hans) ?_
      unfold twH alH ltN
      rw [a6.1, a7.1, a8]
      have hME := (show ME h (sI (sP (sL (sL (sI (sI (sI (sL (sP (sP (sN h (5000 + nl)) (5000 + nl) (0) (some (1000 + f))) (5000 + nl) (1) (some (1000 + t))) (5000 + nl) (2) (vL h 127 l)) (5000 + nl) (3) (0)) (5000 + nl) (3) (vI h 126 l)) (5000 + nl) (4) (vI h 128 l)) (5000 + nl) (5) (vL h (5000 + l) 5)) (5000 + nl) (6) (vL h (5000 + l) 6)) (3) (nl) (some (5000 + nl))) (1) (4) (nI (nl + 1))) from ⟨(fun b k c => by rw [vI_ne (by omega), vI_sP, vI_sL, vI_sL, vI_ne (by omega), vI_ne (by omega), vI_ne (by omega), vI_sL, vI_sP, vI_sP, vI_nN (by omega)]), (fun b k c => by rw [vL_sI, vL_sP, vL_ne (by omega), vL_ne (by omega), vL_sI, vL_sI, vL_sI, vL_ne (by omega), vL_sP, vL_sP, vL_nN (by omega)]), (fun b k c => by rw [vP_sI, vP_ne (by omega), vP_sL, vP_sL, vP_sI, vP_sI, vP_sI, vP_sL, vP_ne (by omega), vP_ne (by omega), vP_nN (by omega)]), (fun b c => by rw [liv_sI, liv_sP, liv_sL, liv_sL, liv_sI, liv_sI, liv_sI, liv_sL, liv_sP, liv_sP, liv_other (by omega)])⟩)
      have u3 : mUw (sI (sP (sL (sL (sI (sI (sI (sL (sP (sP (sN h (5000 + nl)) (5000 + nl) (0) (some (1000 + f))) (5000 + nl) (1) (some (1000 + t))) (5000 + nl) (2) (vL h 127 l)) (5000 + nl) (3) (0)) (5000 + nl) (3) (vI h 126 l)) (5000 + nl) (4) (vI h 128 l)) (5000 + nl) (5) (vL h (5000 + l) 5)) (5000 + nl) (6) (vL h (5000 + l) 6)) (3) (nl) (some (5000 + nl))) (1) (4) (nI (nl + 1))) l := by unfold mUw; rw [hME.1 126 l (by omega)]; exact u2
      refine O2_of rfl (cm_twice nl (ME_W hME (ivMW hI)) (ME_C hME (ivCN hI)).2.1 hl l hl0 u3 (by rw [hME.1 128 l (by omega)]; exact hans) ?_)
      unfold twM
      rw [hME.1 124 l (by omega), hME.1 125 l (by omega), hME.1 126 l (by omega), hME.2.1 127 l (by omega), hME.1 128 l (by omega), hME.2.1 129 l (by omega), hME.2.1 130 l (by omega), a5.1, a5.2]
      refine ⟨rfl, ⟨nm, nl + 1, ns, ne, nk, fr, to, E, iv_twice hI hn f t a1 a2 a3 _ _ _ _ _ _ _ ⟨a6.2.1, a6.2.2⟩ ⟨a7.2.1, a7.2.2⟩ ?_⟩⟩
      rcases a9 with z | ⟨z1, z2, z3, z4⟩
      · exact Or.inl z
      · exact Or.inr ⟨z1, z2, inB_up (Nat.le_succ n) z3, inB_up (Nat.le_succ n) z4⟩
    · exact ct_twice1 nm nl l (ivSR hI) (ivSL hI) hl0 u (O2_of rfl (cm_twice1 nl (ivMW hI) (ivCN hI).2.1 hl l hl0 (fun w => u (hu.mpr w)) ⟨rfl, inv_up hI⟩))
  · exact ct_twice0 nm nl x (ivSR hI) (ivSL hI) hx (O2_of rfl (cm_twice0 nl (ivMW hI) (ivCN hI).2.1 hl x hx ⟨rfl, inv_up hI⟩))
set_option maxRecDepth 20000 in
theorem op_deliver {g : GG} {n : Nat} {h : HP} {nm nl ns ne nk : Nat} {fr to : Nat → Nat} {E : Nat → Nat → Prop} (hI : IV n h nm nl ns ne nk fr to E) (hn : n < 64) (x : Int32) : CT g mX6_deliver [.ref 1, .int x] h (O2 g mX7_deliver [.ref 100, .int x] n) := by
  have hm := ivnm hI
  have hl := (ivSL hI).1
  by_cases hx : inR x nl
  · obtain ⟨l, hl0, rfl⟩ := inR_ex hx (by omega)
    obtain ⟨f, t, a⟩ := ivLT hI l hl0
    have hu := uw_iff a
    by_cases u : uw h (5000 + l)
    · have u2 := hu.mp u
      obtain ⟨a1, a2, a3, a4, a5, a6, a7, a8, a9⟩ := a
      refine ct_deliver nm nl l (ivSR hI) (ivSL hI) hl0 f t a4.1 a4.2 (ivSM hI) a1 a2 u (fun z y => ?_) (fun z y => ?_) (fun z y => ?_) (fun z y => ?_)
      · skip
        have hME := (show ME h (sI h (5000 + l) (3) (3)) from ⟨(fun b k c => by rw [vI_ne (by omega)]), (fun b k c => by rw [vL_sI]), (fun b k c => by rw [vP_sI]), (fun b c => by rw [liv_sI])⟩)
        have u3 : mUw (sI h (5000 + l) (3) (3)) l := by unfold mUw; rw [hME.1 126 l (by omega)]; exact u2
        have zM : vI (sI h (5000 + l) (3) (3)) 126 l = 0 := by rw [hME.1 126 l (by omega), ← a6.1]; exact z
        have yM : ¬ vI (sI h (5000 + l) (3) (3)) 114 t = 0 := by rw [hME.1 114 t (by omega), ← iv114 hI t a2]; exact y
        refine O2_of rfl (cm_deliver nl (ME_W hME (ivMW hI)) (ME_C hME (ivCN hI)).2.1 hl l hl0 u3 f t (by rw [hME.1 124 l (by omega)]; exact a5.1) (by rw [hME.1 125 l (by omega)]; exact a5.2) (by omega) (by omega) ((ME_f hME f).2.2.2.2.2 (DV_of (ivRG hI) a1)) ((ME_f hME t).2.2.2.2.2 (DV_of (ivRG hI) a2)) (fun _ _ => ?_) (fun _ w => absurd w yM) (fun w _ => absurd zM w) (fun w _ => absurd zM w))
        exact ⟨rfl, ⟨nm, nl, ns, ne, nk, fr, to, E, iv_state hI l hl0 3 (by decide) (by decide)⟩⟩
      · unfold tak
        have ek := iv103 hI t a2
        by_cases k4 : vI h (1000 + t) 1 = 4
        · rw [if_pos k4]
          unfold tkH
          rw [iv112 hI t a2, iv113 hI t a2]
          have B := ivRB hI t a2
          have hME := (show ME h (sI (sI (sL (sL h (5000 + l) (5) (vL h 112 t)) (5000 + l) (6) (vL h 113 t)) (5000 + l) (4) (1)) (5000 + l) (3) (1)) from ⟨(fun b k c => by rw [vI_ne (by omega), vI_ne (by omega), vI_sL, vI_sL]), (fun b k c => by rw [vL_sI, vL_sI, vL_ne (by omega), vL_ne (by omega)]), (fun b k c => by rw [vP_sI, vP_sI, vP_sL, vP_sL]), (fun b c => by rw [liv_sI, liv_sI, liv_sL, liv_sL])⟩)
          have u3 : mUw (sI (sI (sL (sL h (5000 + l) (5) (vL h 112 t)) (5000 + l) (6) (vL h 113 t)) (5000 + l) (4) (1)) (5000 + l) (3) (1)) l := by unfold mUw; rw [hME.1 126 l (by omega)]; exact u2
          have zM : vI (sI (sI (sL (sL h (5000 + l) (5) (vL h 112 t)) (5000 + l) (6) (vL h 113 t)) (5000 + l) (4) (1)) (5000 + l) (3) (1)) 126 l = 0 := by rw [hME.1 126 l (by omega), ← a6.1]; exact z
          have yM :  vI (sI (sI (sL (sL h (5000 + l) (5) (vL h 112 t)) (5000 + l) (6) (vL h 113 t)) (5000 + l) (4) (1)) (5000 + l) (3) (1)) 114 t = 0 := by rw [hME.1 114 t (by omega), ← iv114 hI t a2]; exact y
          refine O2_of rfl (cm_deliver nl (ME_W hME (ivMW hI)) (ME_C hME (ivCN hI)).2.1 hl l hl0 u3 f t (by rw [hME.1 124 l (by omega)]; exact a5.1) (by rw [hME.1 125 l (by omega)]; exact a5.2) (by omega) (by omega) ((ME_f hME f).2.2.2.2.2 (DV_of (ivRG hI) a1)) ((ME_f hME t).2.2.2.2.2 (DV_of (ivRG hI) a2)) (fun _ w => absurd yM w) (fun _ _ => ?_) (fun w _ => absurd zM w) (fun w _ => absurd zM w))
          unfold tkM
          rw [if_pos (by rw [hME.1 103 t (by omega), ← ek]; exact k4), hME.2.1 112 t (by omega), hME.2.1 113 t (by omega)]
          exact ⟨rfl, ⟨nm, nl, ns, ne, nk, fr, to, E, iv_take hI l hl0 _ _ (inB_up (Nat.le_succ n) B.2.2.2.2.2.1) (inB_up (Nat.le_succ n) B.2.2.2.2.2.2)⟩⟩
        · rw [if_neg k4]
          unfold tkH
          rw [cLo_eq hI a2, cHi_eq hI a2]
          have hME := (show ME h (sI (sI (sL (sL h (5000 + l) (5) (mLo h t)) (5000 + l) (6) (mHi h t)) (5000 + l) (4) (1)) (5000 + l) (3) (1)) from ⟨(fun b k c => by rw [vI_ne (by omega), vI_ne (by omega), vI_sL, vI_sL]), (fun b k c => by rw [vL_sI, vL_sI, vL_ne (by omega), vL_ne (by omega)]), (fun b k c => by rw [vP_sI, vP_sI, vP_sL, vP_sL]), (fun b c => by rw [liv_sI, liv_sI, liv_sL, liv_sL])⟩)
          have u3 : mUw (sI (sI (sL (sL h (5000 + l) (5) (mLo h t)) (5000 + l) (6) (mHi h t)) (5000 + l) (4) (1)) (5000 + l) (3) (1)) l := by unfold mUw; rw [hME.1 126 l (by omega)]; exact u2
          have zM : vI (sI (sI (sL (sL h (5000 + l) (5) (mLo h t)) (5000 + l) (6) (mHi h t)) (5000 + l) (4) (1)) (5000 + l) (3) (1)) 126 l = 0 := by rw [hME.1 126 l (by omega), ← a6.1]; exact z
          have yM :  vI (sI (sI (sL (sL h (5000 + l) (5) (mLo h t)) (5000 + l) (6) (mHi h t)) (5000 + l) (4) (1)) (5000 + l) (3) (1)) 114 t = 0 := by rw [hME.1 114 t (by omega), ← iv114 hI t a2]; exact y
          refine O2_of rfl (cm_deliver nl (ME_W hME (ivMW hI)) (ME_C hME (ivCN hI)).2.1 hl l hl0 u3 f t (by rw [hME.1 124 l (by omega)]; exact a5.1) (by rw [hME.1 125 l (by omega)]; exact a5.2) (by omega) (by omega) ((ME_f hME f).2.2.2.2.2 (DV_of (ivRG hI) a1)) ((ME_f hME t).2.2.2.2.2 (DV_of (ivRG hI) a2)) (fun _ w => absurd yM w) (fun _ _ => ?_) (fun w _ => absurd zM w) (fun w _ => absurd zM w))
          unfold tkM
          rw [if_neg (by rw [hME.1 103 t (by omega), ← ek]; exact k4), (ME_f hME t).2.1, (ME_f hME t).2.2.1]
          exact ⟨rfl, ⟨nm, nl, ns, ne, nk, fr, to, E, iv_take hI l hl0 _ _ (mLo_b (by omega) (ivNW hI) (ivRG hI) (ivRB hI) a2) (mHi_b (by omega) (ivNW hI) (ivRG hI) (ivRB hI) a2)⟩⟩
      · skip
        have hME := (show ME h (sI h (5000 + l) (3) (3)) from ⟨(fun b k c => by rw [vI_ne (by omega)]), (fun b k c => by rw [vL_sI]), (fun b k c => by rw [vP_sI]), (fun b c => by rw [liv_sI])⟩)
        have u3 : mUw (sI h (5000 + l) (3) (3)) l := by unfold mUw; rw [hME.1 126 l (by omega)]; exact u2
        have zM : ¬ vI (sI h (5000 + l) (3) (3)) 126 l = 0 := by rw [hME.1 126 l (by omega), ← a6.1]; exact z
        have yM : ¬ vI (sI h (5000 + l) (3) (3)) 114 f = 0 := by rw [hME.1 114 f (by omega), ← iv114 hI f a1]; exact y
        refine O2_of rfl (cm_deliver nl (ME_W hME (ivMW hI)) (ME_C hME (ivCN hI)).2.1 hl l hl0 u3 f t (by rw [hME.1 124 l (by omega)]; exact a5.1) (by rw [hME.1 125 l (by omega)]; exact a5.2) (by omega) (by omega) ((ME_f hME f).2.2.2.2.2 (DV_of (ivRG hI) a1)) ((ME_f hME t).2.2.2.2.2 (DV_of (ivRG hI) a2)) (fun w _ => absurd w zM) (fun w _ => absurd w zM) (fun _ _ => ?_) (fun _ w => absurd w yM))
        exact ⟨rfl, ⟨nm, nl, ns, ne, nk, fr, to, E, iv_state hI l hl0 3 (by decide) (by decide)⟩⟩
      · have b := a9.resolve_left (fun w => w.2 (by
          unfold uw at u
          rw [a6.1] at u z
          exact u.resolve_left z))
        have hb0 := a7.2.1
        have hc := mCn_b (n := n) (by omega) (ivNW hI) (ivRG hI) a1
        have hg := gone_i a7.2.1 a7.2.2
        have hA := mAM_b (ivRG hI) a1 (d := mCn h f - vL h 127 l) (by omega) (by omega)
        have hlo : inB (n + 1) (vL h 129 l) := inB_up (Nat.le_succ n) b.2.2.1
        have hhi : inB (n + 1) (vL h 130 l + mAM h f (mCn h f - vL h 127 l)) := (inB_add (by omega) b.2.2.2 (by omega) (by omega)).1
        have p := w1k hI a1
        have eA : aMo (mCn h f - vL h 127 l) (vI h (1000 + f) 2) = mAM h f (mCn h f - vL h 127 l) := by rw [aMo_eq p.1 p.2, iv104 hI f a1]; rfl
        unfold brg
        rw [cCn_eq hI a1, a7.1, b.2.1.1, b.2.1.2, eA]
        unfold heaH
        cases hP : vP h (3000 + f) t with
        | none =>
          show O2 g mX7_deliver _ n _ (sI (spP (sP (sN h (4000 + (10 * f + t))) (3000 + f) t (some (4000 + (10 * f + t)))) (4000 + (10 * f + t)) _ _ _) (5000 + l) 3 2)
          unfold spP
          have hME := (show ME h (sI (sL (sL (sL (sI (sP (sN h (4000 + (10 * f + t))) (3000 + f) (t) (some (4000 + (10 * f + t)))) (4000 + (10 * f + t)) (0) (1)) (4000 + (10 * f + t)) (1) (vL h 129 l)) (4000 + (10 * f + t)) (2) (vL h 130 l + mAM h f (mCn h f - vL h 127 l))) (4000 + (10 * f + t)) (3) (mCn h f)) (5000 + l) (3) (2)) from ⟨(fun b k c => by rw [vI_ne (by omega), vI_sL, vI_sL, vI_sL, vI_ne (by omega), vI_sP, vI_nN (by omega)]), (fun b k c => by rw [vL_sI, vL_ne (by omega), vL_ne (by omega), vL_ne (by omega), vL_sI, vL_sP, vL_nN (by omega)]), (fun b k c => by rw [vP_sI, vP_sL, vP_sL, vP_sL, vP_sI, vP_ne (by omega), vP_nN (by omega)]), (fun b c => by rw [liv_sI, liv_sL, liv_sL, liv_sL, liv_sI, liv_sP, liv_other (by omega)])⟩)
          have u3 : mUw (sI (sL (sL (sL (sI (sP (sN h (4000 + (10 * f + t))) (3000 + f) (t) (some (4000 + (10 * f + t)))) (4000 + (10 * f + t)) (0) (1)) (4000 + (10 * f + t)) (1) (vL h 129 l)) (4000 + (10 * f + t)) (2) (vL h 130 l + mAM h f (mCn h f - vL h 127 l))) (4000 + (10 * f + t)) (3) (mCn h f)) (5000 + l) (3) (2)) l := by unfold mUw; rw [hME.1 126 l (by omega)]; exact u2
          have zM : ¬ vI (sI (sL (sL (sL (sI (sP (sN h (4000 + (10 * f + t))) (3000 + f) (t) (some (4000 + (10 * f + t)))) (4000 + (10 * f + t)) (0) (1)) (4000 + (10 * f + t)) (1) (vL h 129 l)) (4000 + (10 * f + t)) (2) (vL h 130 l + mAM h f (mCn h f - vL h 127 l))) (4000 + (10 * f + t)) (3) (mCn h f)) (5000 + l) (3) (2)) 126 l = 0 := by rw [hME.1 126 l (by omega), ← a6.1]; exact z
          have yM :  vI (sI (sL (sL (sL (sI (sP (sN h (4000 + (10 * f + t))) (3000 + f) (t) (some (4000 + (10 * f + t)))) (4000 + (10 * f + t)) (0) (1)) (4000 + (10 * f + t)) (1) (vL h 129 l)) (4000 + (10 * f + t)) (2) (vL h 130 l + mAM h f (mCn h f - vL h 127 l))) (4000 + (10 * f + t)) (3) (mCn h f)) (5000 + l) (3) (2)) 114 f = 0 := by rw [hME.1 114 f (by omega), ← iv114 hI f a1]; exact y
          refine O2_of rfl (cm_deliver nl (ME_W hME (ivMW hI)) (ME_C hME (ivCN hI)).2.1 hl l hl0 u3 f t (by rw [hME.1 124 l (by omega)]; exact a5.1) (by rw [hME.1 125 l (by omega)]; exact a5.2) (by omega) (by omega) ((ME_f hME f).2.2.2.2.2 (DV_of (ivRG hI) a1)) ((ME_f hME t).2.2.2.2.2 (DV_of (ivRG hI) a2)) (fun w _ => absurd w zM) (fun w _ => absurd w zM) (fun _ w => absurd yM w) (fun _ _ => ?_))
          unfold brM
          rw [(ME_f hME f).1, (ME_f hME f).2.2.2.2.1, hME.2.1 127 l (by omega), hME.2.1 129 l (by omega), hME.2.1 130 l (by omega)]
          exact ⟨rfl, ⟨nm, nl, ns, ne, nk, fr, to, E, iv_bringN hI hn l hl0 f t a1 a2 a3 _ _ hlo hhi⟩⟩
        | some c =>
          obtain rfl := SM_hc (ivSM hI) a1 (by omega) c hP
          show O2 g mX7_deliver _ n _ (sI (spP h (4000 + (10 * f + t)) _ _ _) (5000 + l) 3 2)
          unfold spP
          have hME := (show ME h (sI (sL (sL (sL (sI h (4000 + (10 * f + t)) (0) (1)) (4000 + (10 * f + t)) (1) (vL h 129 l)) (4000 + (10 * f + t)) (2) (vL h 130 l + mAM h f (mCn h f - vL h 127 l))) (4000 + (10 * f + t)) (3) (mCn h f)) (5000 + l) (3) (2)) from ⟨(fun b k c => by rw [vI_ne (by omega), vI_sL, vI_sL, vI_sL, vI_ne (by omega)]), (fun b k c => by rw [vL_sI, vL_ne (by omega), vL_ne (by omega), vL_ne (by omega), vL_sI]), (fun b k c => by rw [vP_sI, vP_sL, vP_sL, vP_sL, vP_sI]), (fun b c => by rw [liv_sI, liv_sL, liv_sL, liv_sL, liv_sI])⟩)
          have u3 : mUw (sI (sL (sL (sL (sI h (4000 + (10 * f + t)) (0) (1)) (4000 + (10 * f + t)) (1) (vL h 129 l)) (4000 + (10 * f + t)) (2) (vL h 130 l + mAM h f (mCn h f - vL h 127 l))) (4000 + (10 * f + t)) (3) (mCn h f)) (5000 + l) (3) (2)) l := by unfold mUw; rw [hME.1 126 l (by omega)]; exact u2
          have zM : ¬ vI (sI (sL (sL (sL (sI h (4000 + (10 * f + t)) (0) (1)) (4000 + (10 * f + t)) (1) (vL h 129 l)) (4000 + (10 * f + t)) (2) (vL h 130 l + mAM h f (mCn h f - vL h 127 l))) (4000 + (10 * f + t)) (3) (mCn h f)) (5000 + l) (3) (2)) 126 l = 0 := by rw [hME.1 126 l (by omega), ← a6.1]; exact z
          have yM :  vI (sI (sL (sL (sL (sI h (4000 + (10 * f + t)) (0) (1)) (4000 + (10 * f + t)) (1) (vL h 129 l)) (4000 + (10 * f + t)) (2) (vL h 130 l + mAM h f (mCn h f - vL h 127 l))) (4000 + (10 * f + t)) (3) (mCn h f)) (5000 + l) (3) (2)) 114 f = 0 := by rw [hME.1 114 f (by omega), ← iv114 hI f a1]; exact y
          refine O2_of rfl (cm_deliver nl (ME_W hME (ivMW hI)) (ME_C hME (ivCN hI)).2.1 hl l hl0 u3 f t (by rw [hME.1 124 l (by omega)]; exact a5.1) (by rw [hME.1 125 l (by omega)]; exact a5.2) (by omega) (by omega) ((ME_f hME f).2.2.2.2.2 (DV_of (ivRG hI) a1)) ((ME_f hME t).2.2.2.2.2 (DV_of (ivRG hI) a2)) (fun w _ => absurd w zM) (fun w _ => absurd w zM) (fun _ w => absurd yM w) (fun _ _ => ?_))
          unfold brM
          rw [(ME_f hME f).1, (ME_f hME f).2.2.2.2.1, hME.2.1 127 l (by omega), hME.2.1 129 l (by omega), hME.2.1 130 l (by omega)]
          exact ⟨rfl, ⟨nm, nl, ns, ne, nk, fr, to, E, iv_bringS hI hn l hl0 f t a1 a2 a3 _ _ hlo hhi hP⟩⟩
    · exact ct_deliver1 nm nl l (ivSR hI) (ivSL hI) hl0 u (O2_of rfl (cm_deliver1 nl (ivMW hI) (ivCN hI).2.1 hl l hl0 (fun w => u (hu.mpr w)) ⟨rfl, inv_up hI⟩))
  · exact ct_deliver0 nm nl x (ivSR hI) (ivSL hI) hx (O2_of rfl (cm_deliver0 nl (ivMW hI) (ivCN hI).2.1 hl x hx ⟨rfl, inv_up hI⟩))
