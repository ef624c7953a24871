/-! votes, council -/
set_option maxRecDepth 20000 in
theorem op_votes {g : GG} {n : Nat} {h : HP} {nm nl ns ne nk : Nat} {fr to : Nat → Nat} {E : Nat → Nat → Prop} (hI : IV n h nm nl ns ne nk fr to E) (hn : n < 64) (x : Int32) (t : Int64) : CT g mX6_votes [.ref 1, .int x, .long t] h (O2 g mX7_votes [.ref 100, .int x, .long t] n) := by
  have hm := ivnm hI
  by_cases hx : inR x nm
  · obtain ⟨i, hi0, rfl⟩ := inR_ex hx (by omega)
    have hME := ME_gt h i nm
    have hP := PM_of hI hME hi0
    refine ct_votes nm i (ivSR hI) (ivSM hI) hi0 (hself hI hi0) t (O2_of ?_ (cm_votes nm (ME_W hME (ivMW hI)) (ME_C hME (ivCN hI)).1 hm i hi0 ((ME_f hME i).2.2.2.2.2 (DV_of (ivRG hI) hi0)) t ⟨rfl, iv_inv (sc_iv hI (AG_rf _))⟩))
    rw [hvN_cnt, hvN_cnt]
    have := PM_VI hP t.toInt
    unfold VI at this
    rw [this]
  · exact ct_votes0 t nm x (ivSR hI) (ivSM hI) hx (O2_of rfl (cm_votes0 t nm (ivMW hI) (ivCN hI).1 (ivnm hI) x hx ⟨rfl, inv_up hI⟩))
set_option maxRecDepth 20000 in
theorem op_council {g : GG} {n : Nat} {h : HP} {nm nl ns ne nk : Nat} {fr to : Nat → Nat} {E : Nat → Nat → Prop} (hI : IV n h nm nl ns ne nk fr to E) (hn : n < 64) (x f wh : Int32) : CT g mX6_council [.ref 1, .int x, .int f, .int wh] h (O2 g mX7_council [.ref 100, .int x, .int f, .int wh] n) := by
  have hm := ivnm hI
  by_cases hx : inR x nm
  · obtain ⟨i, hi0, rfl⟩ := inR_ex hx (by omega)
    by_cases hw : inR wh 5
    · have hME := ME_gt h i nm
      have hlen := PM_len (PM_of hI hME hi0)
      have h10 := gz10 (ivSM hI) hi0 (hself hI hi0)
      by_cases hf : inR f (gz h i nm)
      · obtain ⟨ff, hff, rfl⟩ := inR_ex hf (by omega)
        have hff2 : ff < mz (gtH h i nm) i nm := by omega
        obtain ⟨q, hq, rfl⟩ := inR_ex hw (by omega)
        match q, hq with
        | 0, _ =>
          exact ct_council_0 nm i (ivSR hI) (ivSM hI) hi0 (hself hI hi0) ff hff (O2_of (by rw [hlen]) (cm_council_0 nm (ME_W hME (ivMW hI)) (ME_C hME (ivCN hI)).1 hm i hi0 ((ME_f hME i).2.2.2.2.2 (DV_of (ivRG hI) hi0)) ff hff2 (fun h' P r hF => ⟨rfl, iv_inv (sc_iv hI hF.1)⟩)))
        | 1, _ =>
          exact ct_council_1 nm i (ivSR hI) (ivSM hI) hi0 (hself hI hi0) ff hff ⟨_, rfl, cm_council_1 nm (ME_W hME (ivMW hI)) (ME_C hME (ivCN hI)).1 hm i hi0 ((ME_f hME i).2.2.2.2.2 (DV_of (ivRG hI) hi0)) ff hff2 (fun h' P r hF => ⟨by rw [(cou_eq hI hn hME hi0 hff hF).1], iv_inv (sc_iv hI hF.1)⟩)⟩
        | 2, _ =>
          refine ct_council_2 nm i (ivSR hI) (ivSM hI) hi0 (hself hI hi0) ff hff (fun z => ⟨_, rfl, cm_council_2 nm (ME_W hME (ivMW hI)) (ME_C hME (ivCN hI)).1 hm i hi0 ((ME_f hME i).2.2.2.2.2 (DV_of (ivRG hI) hi0)) ff hff2 (fun h' P r hF _ => ⟨rfl, iv_inv (sc_iv hI hF.1)⟩) (fun h' P r hF hr => ?_)⟩) (fun z1 z2 => ⟨_, rfl, cm_council_2 nm (ME_W hME (ivMW hI)) (ME_C hME (ivCN hI)).1 hm i hi0 ((ME_f hME i).2.2.2.2.2 (DV_of (ivRG hI) hi0)) ff hff2 (fun h' P r hF hr => ?_) (fun h' P r hF hr => ⟨?_, iv_inv (sc_iv hI hF.1)⟩)⟩)
          · rcases (cou_eq hI hn hME hi0 hff hF).2 with ⟨_, _, c⟩ | ⟨c1, c2, _⟩
            · exact absurd c hr
            · exact absurd z (fun w => w.elim c1 c2)
          · rcases (cou_eq hI hn hME hi0 hff hF).2 with ⟨c, _⟩ | ⟨_, _, c, _⟩
            · exact absurd c z1
            · exact absurd hr c
          · rcases (cou_eq hI hn hME hi0 hff hF).2 with ⟨c, _⟩ | ⟨_, _, _, c4, c5, _, _, c6⟩
            · exact absurd c z1
            · rw [c4]
        | 3, _ =>
          refine ct_council_3 nm i (ivSR hI) (ivSM hI) hi0 (hself hI hi0) ff hff (fun z => ⟨_, rfl, cm_council_3 nm (ME_W hME (ivMW hI)) (ME_C hME (ivCN hI)).1 hm i hi0 ((ME_f hME i).2.2.2.2.2 (DV_of (ivRG hI) hi0)) ff hff2 (fun h' P r hF _ => ⟨rfl, iv_inv (sc_iv hI hF.1)⟩) (fun h' P r hF hr => ?_)⟩) (fun z1 z2 => ⟨_, rfl, cm_council_3 nm (ME_W hME (ivMW hI)) (ME_C hME (ivCN hI)).1 hm i hi0 ((ME_f hME i).2.2.2.2.2 (DV_of (ivRG hI) hi0)) ff hff2 (fun h' P r hF hr => ?_) (fun h' P r hF hr => ⟨?_, iv_inv (sc_iv hI hF.1)⟩)⟩)
          · rcases (cou_eq hI hn hME hi0 hff hF).2 with ⟨_, _, c⟩ | ⟨c1, c2, _⟩
            · exact absurd c hr
            · exact absurd z (fun w => w.elim c1 c2)
          · rcases (cou_eq hI hn hME hi0 hff hF).2 with ⟨c, _⟩ | ⟨_, _, c, _⟩
            · exact absurd c z1
            · exact absurd hr c
          · rcases (cou_eq hI hn hME hi0 hff hF).2 with ⟨c, _⟩ | ⟨_, _, _, c4, c5, _, _, c6⟩
            · exact absurd c z1
            · rw [c5]
        | 4, _ =>
          refine ct_council_4 nm i (ivSR hI) (ivSM hI) hi0 (hself hI hi0) ff hff (fun z => ⟨_, rfl, cm_council_4 nm (ME_W hME (ivMW hI)) (ME_C hME (ivCN hI)).1 hm i hi0 ((ME_f hME i).2.2.2.2.2 (DV_of (ivRG hI) hi0)) ff hff2 (fun h' P r hF _ => ⟨rfl, iv_inv (sc_iv hI hF.1)⟩) (fun h' P r hF hr => ?_)⟩) (fun z1 z2 => ⟨_, rfl, cm_council_4 nm (ME_W hME (ivMW hI)) (ME_C hME (ivCN hI)).1 hm i hi0 ((ME_f hME i).2.2.2.2.2 (DV_of (ivRG hI) hi0)) ff hff2 (fun h' P r hF hr => ?_) (fun h' P r hF hr => ⟨?_, iv_inv (sc_iv hI hF.1)⟩)⟩)
          · rcases (cou_eq hI hn hME hi0 hff hF).2 with ⟨_, _, c⟩ | ⟨c1, c2, _⟩
            · exact absurd c hr
            · exact absurd z (fun w => w.elim c1 c2)
          · rcases (cou_eq hI hn hME hi0 hff hF).2 with ⟨c, _⟩ | ⟨_, _, c, _⟩
            · exact absurd c z1
            · exact absurd hr c
          · rcases (cou_eq hI hn hME hi0 hff hF).2 with ⟨c, _⟩ | ⟨_, _, _, c4, c5, _, _, c6⟩
            · exact absurd c z1
            · rw [c6]
        | q + 5, hq => exact absurd hq (by omega)
      · exact ct_council_f nm i (ivSR hI) (ivSM hI) hi0 (hself hI hi0) f wh hw hf (O2_of rfl (cm_council_f nm (ME_W hME (ivMW hI)) (ME_C hME (ivCN hI)).1 hm i hi0 ((ME_f hME i).2.2.2.2.2 (DV_of (ivRG hI) hi0)) f wh hw (by rw [← hlen]; exact hf) ⟨rfl, iv_inv (sc_iv hI (AG_rf _))⟩))
    · exact ct_council_x nm i (ivSR hI) (ivSM hI) hi0 (hself hI hi0) f wh hw (O2_of rfl (cm_council_x nm (ivMW hI) (ivCN hI).1 (ivnm hI) i hi0 (DV_of (ivRG hI) hi0) f wh hw ⟨rfl, inv_up hI⟩))
  · exact ct_council0 f wh nm x (ivSR hI) (ivSM hI) hx (O2_of rfl (cm_council0 f wh nm (ivMW hI) (ivCN hI).1 (ivnm hI) x hx ⟨rfl, inv_up hI⟩))
