/-! contracts: the model's ringFrom and ring -/
theorem RE_low {E : Nat → Nat → Prop} {f n x : Nat} (hx : x ≤ f) (h : Pth (RE E f) n x f) : n = 0 ∧ x = f := by
  cases n with
  | zero => exact ⟨rfl, h⟩
  | succ n => obtain ⟨y, h1, _⟩ := h; have := h1.2.1; omega
theorem Lv_low {E : Nat → Nat → Prop} {f d x : Nat} {v : Int} (hx : x ≤ f) (h : Lv (RE E f) f (d + 1) x v) : Lv (RE E f) f (d + 2) x v := by
  rcases h with ⟨h1, h2⟩ | ⟨d', h1, h2, h3⟩
  · exact Or.inl ⟨h1, fun n _ hp => h2 0 (by omega) (by have := RE_low hx hp; rw [this.2]; exact rfl)⟩
  · exact Or.inr ⟨d', by omega, h2, h3⟩
theorem Mn_low {E : Nat → Nat → Prop} {f d x : Nat} (hx : x ≤ f) : ¬ Mn (RE E f) (d + 1) x f := fun h => by have := RE_low hx h.1; omega
def VV (R : Nat → Nat → Prop) (f d m ne : Nat) (v : Int32) : Prop := (v = 0 ∧ ∀ x, x < m → ¬ Mn R d x f) ∨ (v = 1 ∧ ∃ x, x < ne ∧ Mn R d x f)
theorem VV_no {R : Nat → Nat → Prop} {f d m ne : Nat} {v : Int32} (h : VV R f d m ne v) (hn : ¬ Mn R d m f) : VV R f d (m + 1) ne v := by
  rcases h with ⟨h1, h2⟩ | h
  · exact Or.inl ⟨h1, fun x hx => by
      rcases Nat.lt_succ_iff_lt_or_eq.mp hx with z | z
      · exact h2 x z
      · subst z; exact hn⟩
  · exact Or.inr h
/-- between the events of a step -/
def SI (E : Nat → Nat → Prop) (ne f d e : Nat) (D : Nat → Int32) (v : Int32) : Prop := (∀ x, x < e → Lv (RE E f) f (d + 2) x (D x).toInt) ∧ (∀ x, e ≤ x → x < ne → Lv (RE E f) f (d + 1) x (D x).toInt) ∧ VV (RE E f) f (d + 1) e ne v
/-- inside an event of a step -/
def GI (E : Nat → Nat → Prop) (ne f d e n : Nat) (D : Nat → Int32) (v : Int32) : Prop := (∀ x, x < e → Lv (RE E f) f (d + 2) x (D x).toInt) ∧ (∀ x, e < x → x < ne → Lv (RE E f) f (d + 1) x (D x).toInt) ∧ ((0 ≤ (D e).toInt ∧ Lv (RE E f) f (d + 2) e (D e).toInt ∧ VV (RE E f) f (d + 1) (e + 1) ne v) ∨ ((D e).toInt < 0 ∧ Lv (RE E f) f (d + 1) e (D e).toInt ∧ (∀ g, g < n → RE E f e g → ¬ Mn (RE E f) d g f) ∧ VV (RE E f) f (d + 1) e ne v))
theorem GI_in {E : Nat → Nat → Prop} {ne f d e : Nat} {D : Nat → Int32} {v : Int32} (he : e < ne) (h : SI E ne f d e D v) : GI E ne f d e f D v := by
  obtain ⟨h1, h2, h3⟩ := h
  refine ⟨h1, fun x hx hx2 => h2 x (by omega) hx2, ?_⟩
  have q := h2 e (Nat.le_refl e) he
  rcases Int.lt_or_le (D e).toInt 0 with z | z
  · exact Or.inr ⟨z, q, fun g hg hR => by have := hR.2.2; omega, h3⟩
  · refine Or.inl ⟨z, Lv_up q z, VV_no h3 (fun hm => ?_)⟩
    rcases q with ⟨q1, _⟩ | ⟨d', q1, q2, q3⟩
    · omega
    · have := Mn_uq q3 hm; omega
theorem SI_of {E : Nat → Nat → Prop} {ne f d e : Nat} {D : Nat → Int32} {v : Int32} (h1 : ∀ x, x < e → Lv (RE E f) f (d + 2) x (D x).toInt) (h2 : ∀ x, e < x → x < ne → Lv (RE E f) f (d + 1) x (D x).toInt) (h3 : Lv (RE E f) f (d + 2) e (D e).toInt) (h4 : VV (RE E f) f (d + 1) (e + 1) ne v) : SI E ne f d (e + 1) D v :=
  ⟨fun x hx => by
    rcases Nat.lt_succ_iff_lt_or_eq.mp hx with z | z
    · exact h1 x z
    · subst z; exact h3, fun x hx hx2 => h2 x (by omega) hx2, h4⟩
theorem GI_got {E : Nat → Nat → Prop} {ne f d e n : Nat} {D : Nat → Int32} {v : Int32} (h : GI E ne f d e n D v) (hd : 0 ≤ (D e).toInt) : SI E ne f d (e + 1) D v := by
  obtain ⟨h1, h2, h3⟩ := h
  rcases h3 with ⟨_, h4, h5⟩ | ⟨h4, _⟩
  · exact SI_of h1 h2 h4 h5
  · omega
theorem GI_end {E : Nat → Nat → Prop} {ne f d e : Nat} {D : Nat → Int32} {v : Int32} (hb : ∀ a b, E a b → a < ne ∧ b < ne) (h : GI E ne f d e ne D v) : SI E ne f d (e + 1) D v := by
  obtain ⟨h1, h2, h3⟩ := h
  rcases h3 with ⟨_, h4, h5⟩ | ⟨h4, h5, h6, h7⟩
  · exact SI_of h1 h2 h4 h5
  · have hno : ∀ y, RE E f e y → ¬ Mn (RE E f) d y f := fun y hy => h6 y (hb _ _ hy.1).2 hy
    exact SI_of h1 h2 (Lv_no h5 (fun _ => hno)) (VV_no h7 (fun hm => by obtain ⟨y, a1, a2⟩ := Mn_next hm; exact hno y a1 a2))
theorem GI_no {E : Nat → Nat → Prop} {ne f d e n : Nat} {D : Nat → Int32} {v : Int32} (hn : n < ne) (h : GI E ne f d e n D v) (hd : (D e).toInt < 0) (hc : E e n → ¬ (D n).toInt = (d : Int)) : GI E ne f d e (n + 1) D v := by
  obtain ⟨h1, h2, h3⟩ := h
  rcases h3 with ⟨h4, _⟩ | ⟨h4, h5, h6, h7⟩
  · omega
  · refine ⟨h1, h2, Or.inr ⟨h4, h5, fun g hg hR => ?_, h7⟩⟩
    rcases Nat.lt_succ_iff_lt_or_eq.mp hg with z | z
    · exact h6 g z hR
    · subst z
      intro hm
      apply hc hR.1
      rcases Nat.lt_trichotomy g e with z | z | z
      · exact (Lv_is2 (h1 g z)).mpr hm
      · subst z; exact (Lv_is h5).mpr hm
      · exact (Lv_is (h2 g z hn)).mpr hm
theorem GI_yes {E : Nat → Nat → Prop} {ne f d e n : Nat} {D : Nat → Int32} {v w : Int32} (hfe : f < e) (he : e < ne) (hfn : f ≤ n) (hn : n < ne) (hw : w.toInt = ((d + 1 : Nat) : Int)) (h : GI E ne f d e n D v) (hd : (D e).toInt < 0) (hE : E e n) (hc : (D n).toInt = (d : Int)) : GI E ne f d e (n + 1) (fun q => if q = e then w else D q) 1 := by
  obtain ⟨h1, h2, h3⟩ := h
  rcases h3 with ⟨h4, _⟩ | ⟨h4, h5, h6, h7⟩
  · omega
  · have hm : Mn (RE E f) d n f := by
      rcases Nat.lt_trichotomy n e with z | z | z
      · exact (Lv_is2 (h1 n z)).mp hc
      · subst z; exact (Lv_is h5).mp hc
      · exact (Lv_is (h2 n z hn)).mp hc
    have hy := Lv_yes h5 hd (show RE E f e n from ⟨hE, hfe, hfn⟩) hm
    refine ⟨fun x hx => ?_, fun x hx hx2 => ?_, Or.inl ⟨?_, ?_, Or.inr ⟨rfl, e, he, (Lv_is hy).mp rfl⟩⟩⟩
    · show Lv _ f (d + 2) x (if x = e then w else D x).toInt
      rw [if_neg (by omega)]; exact h1 x hx
    · show Lv _ f (d + 1) x (if x = e then w else D x).toInt
      rw [if_neg (by omega)]; exact h2 x hx hx2
    · show 0 ≤ (if e = e then w else D e).toInt
      rw [if_pos rfl, hw]; omega
    · show Lv _ f (d + 2) e (if e = e then w else D e).toInt
      rw [if_pos rfl, hw]; exact hy
def ST (E : Nat → Nat → Prop) (ne f d : Nat) (D : Nat → Int32) (v : Int32) : Prop := (∀ x, x < ne → Lv (RE E f) f (d + 1) x (D x).toInt) ∧ VV (RE E f) f d ne ne v
theorem ST_in {E : Nat → Nat → Prop} {ne f d : Nat} {D : Nat → Int32} {v : Int32} (hf : f < ne) (h : ST E ne f d D v) : SI E ne f d (f + 1) D 0 :=
  ⟨fun x hx => Lv_low (by omega) (h.1 x (by omega)), fun x _ hx => h.1 x hx, Or.inl ⟨rfl, fun x hx => Mn_low (by omega)⟩⟩
theorem ST_out {E : Nat → Nat → Prop} {ne f d : Nat} {D : Nat → Int32} {v : Int32} (h : SI E ne f d ne D v) : ST E ne f (d + 1) D v := ⟨h.1, h.2.2⟩
theorem RE_bnd {E : Nat → Nat → Prop} {ne f : Nat} (hb : ∀ a b, E a b → a < ne ∧ b < ne) : ∀ a b, RE E f a b → a < ne ∧ b < ne := fun a b h => hb a b h.1
theorem ST_lt {E : Nat → Nat → Prop} {ne f d : Nat} {D : Nat → Int32} (hb : ∀ a b, E a b → a < ne ∧ b < ne) (h : ST E ne f d D 1) : d < ne := by
  rcases h.2 with ⟨z, _⟩ | ⟨_, x, hx, hm⟩
  · cases z
  · exact Mn_lt (RE_bnd hb) hm hx
theorem ST_end {E : Nat → Nat → Prop} {ne f d : Nat} {D : Nat → Int32} (hb : ∀ a b, E a b → a < ne ∧ b < ne) (hf : f < ne) (h : ST E ne f d D 0) : ∀ x, x < ne → Ds (RE E f) f x (D x).toInt := by
  intro x hx
  refine Lv_end (h.1 x hx) (fun y hy => ?_)
  have hy2 : y < ne := by
    cases d with
    | zero => have e : y = f := hy.1; omega
    | succ t => exact (Pth_src (RE_bnd hb) hy.1).1
  rcases h.2 with ⟨_, z⟩ | ⟨z, _⟩
  · exact z y hy2 hy
  · cases z
/-- the shortest ring found among the events below n -/
def LM (E : Nat → Nat → Prop) (f n : Nat) (D : Nat → Int32) (v : Int32) : Prop := (v = 0 ∧ ∀ x, f < x → x < n → E f x → (D x).toInt ≤ 0) ∨ (1 < v.toInt ∧ (∃ x, f < x ∧ x < n ∧ E f x ∧ v.toInt = (D x).toInt + 1) ∧ ∀ x, f < x → x < n → E f x → 0 < (D x).toInt → v.toInt ≤ (D x).toInt + 1)
theorem LM_no {E : Nat → Nat → Prop} {f n : Nat} {D : Nat → Int32} {v : Int32} (h : LM E f n D v) (hc : E f n → (D n).toInt ≤ 0) : LM E f (n + 1) D v := by
  rcases h with ⟨h1, h2⟩ | ⟨h1, ⟨x, a1, a2, a3, a4⟩, h3⟩
  · exact Or.inl ⟨h1, fun x hx hx2 hE => by
      rcases Nat.lt_succ_iff_lt_or_eq.mp hx2 with z | z
      · exact h2 x hx z hE
      · subst z; exact hc hE⟩
  · exact Or.inr ⟨h1, ⟨x, a1, by omega, a3, a4⟩, fun x hx hx2 hE h0 => by
      rcases Nat.lt_succ_iff_lt_or_eq.mp hx2 with z | z
      · exact h3 x hx z hE h0
      · subst z; have := hc hE; omega⟩
theorem LM_keep {E : Nat → Nat → Prop} {f n : Nat} {D : Nat → Int32} {v : Int32} (h : LM E f n D v) (h0 : ¬ v.toInt = 0) (hc : v.toInt ≤ (D n).toInt + 1) : LM E f (n + 1) D v := by
  rcases h with ⟨h1, h2⟩ | ⟨h1, ⟨x, a1, a2, a3, a4⟩, h3⟩
  · exact absurd (by rw [h1]; rfl) h0
  · exact Or.inr ⟨h1, ⟨x, a1, by omega, a3, a4⟩, fun x hx hx2 hE h0 => by
      rcases Nat.lt_succ_iff_lt_or_eq.mp hx2 with z | z
      · exact h3 x hx z hE h0
      · subst z; exact hc⟩
theorem LM_set {E : Nat → Nat → Prop} {f n : Nat} {D : Nat → Int32} {v w : Int32} (h : LM E f n D v) (hfn : f < n) (hE : E f n) (hd : 0 < (D n).toInt) (hw : w.toInt = (D n).toInt + 1) (hc : v.toInt = 0 ∨ (D n).toInt + 1 < v.toInt) : LM E f (n + 1) D w := by
  refine Or.inr ⟨by omega, ⟨n, hfn, by omega, hE, hw⟩, fun x hx hx2 hEx h0 => ?_⟩
  rcases Nat.lt_succ_iff_lt_or_eq.mp hx2 with z | z
  · rcases h with ⟨h1, h2⟩ | ⟨h1, _, h3⟩
    · have := h2 x hx z hEx; omega
    · have := h3 x hx z hEx h0; omega
  · subst z; omega
def RV (E : Nat → Nat → Prop) (ne f : Nat) (v : Int32) : Prop := (v = 0 ∧ ∀ m, ¬ Qm E m f) ∨ ∃ L : Nat, v = nI L ∧ 1 ≤ L ∧ L ≤ ne ∧ Qm E L f ∧ ∀ m, Qm E m f → L ≤ m
theorem RV_of {E : Nat → Nat → Prop} {ne f : Nat} {D : Nat → Int32} {v : Int32} (hne : ne ≤ 30) (hb : ∀ a b, E a b → a < ne ∧ b < ne) (hD : ∀ x, x < ne → Ds (RE E f) f x (D x).toInt) (h : LM E f ne D v) : RV E ne f v := by
  have key : ∀ m, Qm E m f → ∃ x, f < x ∧ x < ne ∧ E f x ∧ 0 < (D x).toInt ∧ (D x).toInt + 1 ≤ (m : Int) := by
    intro m ⟨k, x, e1, e2, e3, e4⟩
    have hx := (hb _ _ e2).2
    have q := Ds_pth (hD x hx) e4
    refine ⟨x, e3, hx, e2, ?_, by omega⟩
    rcases Int.lt_or_le 0 (D x).toInt with z | z
    · exact z
    · have := (Ds_is (s := 0) (hD x hx)).mp (by omega)
      have e : x = f := this.1
      omega
  rcases h with ⟨h1, h2⟩ | ⟨h1, ⟨x, a1, a2, a3, a4⟩, h3⟩
  · refine Or.inl ⟨h1, fun m hq => ?_⟩
    obtain ⟨x, b1, b2, b3, b4, _⟩ := key m hq
    have := h2 x b1 b2 b3
    omega
  · obtain ⟨d, d1, d2⟩ := Ds_ge (hD x a2) (by omega)
    have hlt := Mn_lt (RE_bnd hb) d2 a2
    refine Or.inr ⟨d + 1, ?_, by omega, by omega, ⟨d, x, rfl, a3, a1, d2.1⟩, fun m hq => ?_⟩
    · apply Int32.toInt.inj; rw [nIt (by omega)]; omega
    · obtain ⟨x', b1, b2, b3, b4, b5⟩ := key m hq
      have := h3 x' b1 b2 b3 b4
      omega
set_option maxRecDepth 100000 in
set_option maxHeartbeats 4000000 in
theorem rf_g {g : GG} {h : HP} {Post : Option Value → HP → Prop} (ne : Nat) (E : Nat → Nat → Prop) (hM : ML h ne E) (f : Nat) (hf : f < ne) (d : Nat) (hd : d < ne) (e : Nat) (hfe : f < e) (he : e < ne) (hnext : ∀ h1 v, Ai 152 h h1 → SI E ne f d (e + 1) (vI h1 152) v → WP g mX7_ringFrom 47 [(0, .ref 100), (1, .int (nI f)), (2, .int v), (3, .int (nI d)), (4, .int (nI (e + 1)))] [] h1 0 0 Post) : ∀ (k n : Nat), n + k = ne → ∀ (h' : HP) (v : Int32), f ≤ n → Ai 152 h h' → GI E ne f d e n (vI h' 152) v → WP g mX7_ringFrom 59 [(0, .ref 100), (1, .int (nI f)), (2, .int v), (3, .int (nI d)), (4, .int (nI e)), (5, .int (nI n))] [] h' 0 0 Post := by
  intro k
  have hne := hM.2.2.1
  have hb := hM.2.2.2.1
  induction k with
  | zero =>
    intro n e0 h' v hfn hA hG
    refine wp_iload dX7_ringFrom_59 5 rfl ?_
    refine wp_aload_n dX7_ringFrom_61 rfl 0 rfl ?_
    refine wv_getI (nI ne) dX7_ringFrom_62 flX7_246 rfl rfl (by (try simp only [liv_sI, liv_sL]); rw [hA.1]; exact hM.1.1) (by rw [hA.2.2.2 100 (by decide)]; exact hM.2.1) ?_
    refine wi_icmp_ge (tgt := 123) ((n : Nat)) ((ne : Nat)) (nIt (by omega)) (nIt (by omega)) dX7_ringFrom_65 (by decide) (fun _ => ?_) (fun c_1 => absurd (by omega) c_1)
    refine wp_iinc (q := 4) (x := nI e) (v := nI (e + 1)) (lv' := [(4, .int (nI (e + 1))), (0, .ref 100), (1, .int (nI f)), (2, .int v), (3, .int (nI d)), (5, .int (nI n))]) dX7_ringFrom_123 rfl (nI_1 _) (by decide) rfl ?_
    refine wp_goto (tgt := 47) dX7_ringFrom_126 (by decide) ?_
    refine wp_sub [1, 2, 3, 4, 0] rfl ?_
    obtain rfl : n = ne := by omega
    exact hnext h' v hA (GI_end hb hG)
  | succ k ih =>
    intro n e0 h' v hfn hA hG
    refine wp_iload dX7_ringFrom_59 5 rfl ?_
    refine wp_aload_n dX7_ringFrom_61 rfl 0 rfl ?_
    refine wv_getI (nI ne) dX7_ringFrom_62 flX7_246 rfl rfl (by (try simp only [liv_sI, liv_sL]); rw [hA.1]; exact hM.1.1) (by rw [hA.2.2.2 100 (by decide)]; exact hM.2.1) ?_
    refine wi_icmp_ge (tgt := 123) ((n : Nat)) ((ne : Nat)) (nIt (by omega)) (nIt (by omega)) dX7_ringFrom_65 (by decide) (fun c_1 => absurd c_1 (by omega)) (fun _ => ?_)
    refine wp_aload_n dX7_ringFrom_68 rfl 0 rfl ?_
    refine wp_getP (b := 152) dX7_ringFrom_69 flX7_132 rfl rfl (by (try simp only [liv_sI, liv_sL]); rw [hA.1]; exact hM.1.1) (by (try simp only [vP_sI, vP_sL]); rw [hA.2.1]; exact (hM.1.2 51 rfl).2) ?_
    refine wp_iload dX7_ringFrom_72 4 rfl ?_
    refine wv_iald e (vI h' 152 e) dX7_ringFrom_74 rfl (by (try simp only [liv_sI, liv_sL]); rw [hA.1]; exact (hM.1.2 51 rfl).1) rfl (by show e < 30; omega) rfl ?_
    refine wi_if_ge (tgt := 123) (Int32.toInt (vI h' 152 e)) rfl dX7_ringFrom_75 (by decide) (fun c_2 => ?_) (fun c_2 => ?_)
    · refine wp_iinc (q := 4) (x := nI e) (v := nI (e + 1)) (lv' := [(4, .int (nI (e + 1))), (0, .ref 100), (1, .int (nI f)), (2, .int v), (3, .int (nI d)), (5, .int (nI n))]) dX7_ringFrom_123 rfl (nI_1 _) (by decide) rfl ?_
      refine wp_goto (tgt := 47) dX7_ringFrom_126 (by decide) ?_
      refine wp_sub [1, 2, 3, 4, 0] rfl ?_
      exact hnext h' v hA (GI_got hG c_2)
    · refine wp_aload_n dX7_ringFrom_78 rfl 0 rfl ?_
      refine wp_getP (b := 140) dX7_ringFrom_79 flX7_111 rfl rfl (by (try simp only [liv_sI, liv_sL]); rw [hA.1]; exact hM.1.1) (by (try simp only [vP_sI, vP_sL]); rw [hA.2.1]; exact (hM.1.2 39 rfl).2) ?_
      refine wp_bipush (v := 30) dX7_ringFrom_82 (by decide) ?_
      refine wp_iload dX7_ringFrom_84 4 rfl ?_
      refine wv_imul (nI (30 * e)) (wN_mul rfl rfl) dX7_ringFrom_86 ?_
      refine wp_iload dX7_ringFrom_87 5 rfl ?_
      refine wv_iadd (nI ((30 * e) + n)) (wN_add rfl rfl) dX7_ringFrom_89 ?_
      refine wv_bald (30 * e + n) (vI h 140 (30 * e + n)) dX7_ringFrom_90 rfl (by (try simp only [liv_sI, liv_sL]); rw [hA.1]; exact (hM.1.2 39 rfl).1) rfl (by show 30 * e + n < 900; omega) (by rw [hA.2.2.2 140 (by decide)]) ?_
      refine wi_if_eq (tgt := 117) (Int32.toInt (vI h 140 (30 * e + n))) rfl dX7_ringFrom_91 (by decide) (fun c_3 => ?_) (fun c_3 => ?_)
      · refine wp_iinc (q := 5) (x := nI n) (v := nI (n + 1)) (lv' := [(5, .int (nI (n + 1))), (0, .ref 100), (1, .int (nI f)), (2, .int v), (3, .int (nI d)), (4, .int (nI e))]) dX7_ringFrom_117 rfl (nI_1 _) (by decide) rfl ?_
        refine wp_goto (tgt := 59) dX7_ringFrom_120 (by decide) ?_
        refine wp_sub [1, 2, 3, 4, 5, 0] rfl ?_
        exact ih (n + 1) (by omega) h' v (by omega) hA (GI_no (by omega) hG (by omega) (fun z => absurd z ((hM.2.2.2.2 e n (by omega) (by omega)).mp c_3)))
      · refine wp_aload_n dX7_ringFrom_94 rfl 0 rfl ?_
        refine wp_getP (b := 152) dX7_ringFrom_95 flX7_132 rfl rfl (by (try simp only [liv_sI, liv_sL]); rw [hA.1]; exact hM.1.1) (by (try simp only [vP_sI, vP_sL]); rw [hA.2.1]; exact (hM.1.2 51 rfl).2) ?_
        refine wp_iload dX7_ringFrom_98 5 rfl ?_
        refine wv_iald n (vI h' 152 n) dX7_ringFrom_100 rfl (by (try simp only [liv_sI, liv_sL]); rw [hA.1]; exact (hM.1.2 51 rfl).1) rfl (by show n < 30; omega) rfl ?_
        refine wp_iload_n dX7_ringFrom_101 rfl 3 rfl ?_
        refine wi_icmp_ne (tgt := 117) (Int32.toInt (vI h' 152 n)) ((d : Nat)) rfl (nIt (by omega)) dX7_ringFrom_102 (by decide) (fun c_4 => ?_) (fun c_4 => ?_)
        · refine wp_iinc (q := 5) (x := nI n) (v := nI (n + 1)) (lv' := [(5, .int (nI (n + 1))), (0, .ref 100), (1, .int (nI f)), (2, .int v), (3, .int (nI d)), (4, .int (nI e))]) dX7_ringFrom_117 rfl (nI_1 _) (by decide) rfl ?_
          refine wp_goto (tgt := 59) dX7_ringFrom_120 (by decide) ?_
          refine wp_sub [1, 2, 3, 4, 5, 0] rfl ?_
          exact ih (n + 1) (by omega) h' v (by omega) hA (GI_no (by omega) hG (by omega) (fun _ => c_4))
        · refine wp_aload_n dX7_ringFrom_105 rfl 0 rfl ?_
          refine wp_getP (b := 152) dX7_ringFrom_106 flX7_132 rfl rfl (by (try simp only [liv_sI, liv_sL]); rw [hA.1]; exact hM.1.1) (by (try simp only [vP_sI, vP_sL]); rw [hA.2.1]; exact (hM.1.2 51 rfl).2) ?_
          refine wp_iload dX7_ringFrom_109 4 rfl ?_
          refine wp_iload_n dX7_ringFrom_111 rfl 3 rfl ?_
          refine wp_iconst (v := 1) dX7_ringFrom_112 (by decide) ?_
          refine wv_iadd (nI (d + 1)) (wN_add rfl rfl) dX7_ringFrom_113 ?_
          refine wv_iast e dX7_ringFrom_114 rfl (by (try simp only [liv_sI, liv_sL]); rw [hA.1]; exact (hM.1.2 51 rfl).1) rfl (by show e < 30; omega) ?_
          refine wp_iconst (v := 1) dX7_ringFrom_115 (by decide) ?_
          refine wp_istore_n (lv' := [(2, .int 1), (0, .ref 100), (1, .int (nI f)), (3, .int (nI d)), (4, .int (nI e)), (5, .int (nI n))]) dX7_ringFrom_116 rfl (by decide) rfl ?_
          refine wp_iinc (q := 5) (x := nI n) (v := nI (n + 1)) (lv' := [(5, .int (nI (n + 1))), (2, .int 1), (0, .ref 100), (1, .int (nI f)), (3, .int (nI d)), (4, .int (nI e))]) dX7_ringFrom_117 rfl (nI_1 _) (by decide) rfl ?_
          refine wp_goto (tgt := 59) dX7_ringFrom_120 (by decide) ?_
          refine wp_sub [2, 3, 1, 4, 5, 0] rfl ?_
          exact ih (n + 1) (by omega) _ 1 (by omega) (Ai_put hA) (by rw [vI_row]; exact GI_yes hfe he hfn (by omega) (nIt (by omega)) hG (by omega) (Classical.byContradiction (fun z => c_3 ((hM.2.2.2.2 e n (by omega) (by omega)).mpr z))) (by omega))
set_option maxRecDepth 100000 in
set_option maxHeartbeats 4000000 in
theorem rf_e {g : GG} {h : HP} {Post : Option Value → HP → Prop} (ne : Nat) (E : Nat → Nat → Prop) (hM : ML h ne E) (f : Nat) (hf : f < ne) (d : Nat) (hd : d < ne) (hnext : ∀ h1 v, Ai 152 h h1 → ST E ne f (d + 1) (vI h1 152) v → WP g mX7_ringFrom 36 [(0, .ref 100), (1, .int (nI f)), (2, .int v), (3, .int (nI (d + 1)))] [] h1 0 0 Post) : ∀ (k n : Nat), n + k = ne → ∀ (h' : HP) (v : Int32), f < n → Ai 152 h h' → SI E ne f d n (vI h' 152) v → WP g mX7_ringFrom 47 [(0, .ref 100), (1, .int (nI f)), (2, .int v), (3, .int (nI d)), (4, .int (nI n))] [] h' 0 0 Post := by
  intro k
  have hne := hM.2.2.1
  have hb := hM.2.2.2.1
  induction k with
  | zero =>
    intro n e0 h' v hfn hA hG
    refine wp_iload dX7_ringFrom_47 4 rfl ?_
    refine wp_aload_n dX7_ringFrom_49 rfl 0 rfl ?_
    refine wv_getI (nI ne) dX7_ringFrom_50 flX7_246 rfl rfl (by (try simp only [liv_sI, liv_sL]); rw [hA.1]; exact hM.1.1) (by rw [hA.2.2.2 100 (by decide)]; exact hM.2.1) ?_
    refine wi_icmp_ge (tgt := 129) ((n : Nat)) ((ne : Nat)) (nIt (by omega)) (nIt (by omega)) dX7_ringFrom_53 (by decide) (fun _ => ?_) (fun c_1 => absurd (by omega) c_1)
    refine wp_iinc (q := 3) (x := nI d) (v := nI (d + 1)) (lv' := [(3, .int (nI (d + 1))), (0, .ref 100), (1, .int (nI f)), (2, .int v), (4, .int (nI n))]) dX7_ringFrom_129 rfl (nI_1 _) (by decide) rfl ?_
    refine wp_goto (tgt := 36) dX7_ringFrom_132 (by decide) ?_
    refine wp_sub [1, 2, 3, 0] rfl ?_
    obtain rfl : n = ne := by omega
    exact hnext h' v hA (ST_out hG)
  | succ k ih =>
    intro n e0 h' v hfn hA hG
    refine wp_iload dX7_ringFrom_47 4 rfl ?_
    refine wp_aload_n dX7_ringFrom_49 rfl 0 rfl ?_
    refine wv_getI (nI ne) dX7_ringFrom_50 flX7_246 rfl rfl (by (try simp only [liv_sI, liv_sL]); rw [hA.1]; exact hM.1.1) (by rw [hA.2.2.2 100 (by decide)]; exact hM.2.1) ?_
    refine wi_icmp_ge (tgt := 129) ((n : Nat)) ((ne : Nat)) (nIt (by omega)) (nIt (by omega)) dX7_ringFrom_53 (by decide) (fun c_1 => absurd c_1 (by omega)) (fun _ => ?_)
    refine wp_iload_n dX7_ringFrom_56 rfl 1 rfl ?_
    refine wp_istore (lv' := [(5, .int (nI f)), (0, .ref 100), (1, .int (nI f)), (2, .int v), (3, .int (nI d)), (4, .int (nI n))]) dX7_ringFrom_57 (by decide) rfl ?_
    refine wp_sub [1, 2, 3, 4, 5, 0] rfl ?_
    exact rf_g ne E hM f hf d hd n (by omega) (by omega) (fun h1 v1 q1 q2 => ih (n + 1) (by omega) h1 v1 (by omega) q1 q2) (ne - f) f (by omega) h' v (by omega) hA (GI_in (by omega) hG)
set_option maxRecDepth 100000 in
set_option maxHeartbeats 4000000 in
theorem rf_l {g : GG} {h : HP} {Post : Option Value → HP → Prop} (ne : Nat) (E : Nat → Nat → Prop) (hM : ML h ne E) (f : Nat) (hf : f < ne) (hp : ∀ h' v, Ai 152 h h' → (∀ x, x < ne → Ds (RE E f) f x (vI h' 152 x).toInt) → RV E ne f v → Post (some (.int v)) h') : ∀ (k n : Nat), n + k = ne → ∀ (h' : HP) (v : Int32), f < n → Ai 152 h h' → (∀ x, x < ne → Ds (RE E f) f x (vI h' 152 x).toInt) → LM E f n (vI h' 152) v → WP g mX7_ringFrom 142 [(0, .ref 100), (1, .int (nI f)), (2, .int 0), (3, .int v), (4, .int (nI n))] [] h' 0 0 Post := by
  intro k
  have hne := hM.2.2.1
  have hb := hM.2.2.2.1
  induction k with
  | zero =>
    intro n e0 h' v hfn hA hD hG
    refine wp_iload dX7_ringFrom_142 4 rfl ?_
    refine wp_aload_n dX7_ringFrom_144 rfl 0 rfl ?_
    refine wv_getI (nI ne) dX7_ringFrom_145 flX7_246 rfl rfl (by (try simp only [liv_sI, liv_sL]); rw [hA.1]; exact hM.1.1) (by rw [hA.2.2.2 100 (by decide)]; exact hM.2.1) ?_
    refine wi_icmp_ge (tgt := 209) ((n : Nat)) ((ne : Nat)) (nIt (by omega)) (nIt (by omega)) dX7_ringFrom_148 (by decide) (fun _ => ?_) (fun c_1 => absurd (by omega) c_1)
    refine wp_iload_n dX7_ringFrom_209 rfl 3 rfl ?_
    refine wp_iret dX7_ringFrom_210 rfl (by decide) (by decide) ?_
    obtain rfl : n = ne := by omega
    exact hp h' v hA hD (RV_of hne hb hD hG)
  | succ k ih =>
    intro n e0 h' v hfn hA hD hG
    have hby : (vI h' 152 n + 1).toInt = (vI h' 152 n).toInt + 1 := I_add1 (by
      rcases hD n (by omega) with ⟨z, _⟩ | ⟨d, z, z2⟩
      · omega
      · have := Mn_lt (RE_bnd hb) z2 (show n < ne by omega); omega)
    refine wp_iload dX7_ringFrom_142 4 rfl ?_
    refine wp_aload_n dX7_ringFrom_144 rfl 0 rfl ?_
    refine wv_getI (nI ne) dX7_ringFrom_145 flX7_246 rfl rfl (by (try simp only [liv_sI, liv_sL]); rw [hA.1]; exact hM.1.1) (by rw [hA.2.2.2 100 (by decide)]; exact hM.2.1) ?_
    refine wi_icmp_ge (tgt := 209) ((n : Nat)) ((ne : Nat)) (nIt (by omega)) (nIt (by omega)) dX7_ringFrom_148 (by decide) (fun c_1 => absurd c_1 (by omega)) (fun _ => ?_)
    refine wp_aload_n dX7_ringFrom_151 rfl 0 rfl ?_
    refine wp_getP (b := 140) dX7_ringFrom_152 flX7_111 rfl rfl (by (try simp only [liv_sI, liv_sL]); rw [hA.1]; exact hM.1.1) (by (try simp only [vP_sI, vP_sL]); rw [hA.2.1]; exact (hM.1.2 39 rfl).2) ?_
    refine wp_bipush (v := 30) dX7_ringFrom_155 (by decide) ?_
    refine wp_iload_n dX7_ringFrom_157 rfl 1 rfl ?_
    refine wv_imul (nI (30 * f)) (wN_mul rfl rfl) dX7_ringFrom_158 ?_
    refine wp_iload dX7_ringFrom_159 4 rfl ?_
    refine wv_iadd (nI ((30 * f) + n)) (wN_add rfl rfl) dX7_ringFrom_161 ?_
    refine wv_bald (30 * f + n) (vI h 140 (30 * f + n)) dX7_ringFrom_162 rfl (by (try simp only [liv_sI, liv_sL]); rw [hA.1]; exact (hM.1.2 39 rfl).1) rfl (by show 30 * f + n < 900; omega) (by rw [hA.2.2.2 140 (by decide)]) ?_
    refine wi_if_eq (tgt := 203) (Int32.toInt (vI h 140 (30 * f + n))) rfl dX7_ringFrom_163 (by decide) (fun c_2 => ?_) (fun c_2 => ?_)
    · refine wp_iinc (q := 4) (x := nI n) (v := nI (n + 1)) (lv' := [(4, .int (nI (n + 1))), (0, .ref 100), (1, .int (nI f)), (2, .int 0), (3, .int v)]) dX7_ringFrom_203 rfl (nI_1 _) (by decide) rfl ?_
      refine wp_goto (tgt := 142) dX7_ringFrom_206 (by decide) ?_
      refine wp_sub [1, 2, 3, 4, 0] rfl ?_
      exact ih (n + 1) (by omega) h' v (by omega) hA hD (LM_no hG (fun z => absurd z ((hM.2.2.2.2 f n (by omega) (by omega)).mp c_2)))
    · refine wp_aload_n dX7_ringFrom_166 rfl 0 rfl ?_
      refine wp_getP (b := 152) dX7_ringFrom_167 flX7_132 rfl rfl (by (try simp only [liv_sI, liv_sL]); rw [hA.1]; exact hM.1.1) (by (try simp only [vP_sI, vP_sL]); rw [hA.2.1]; exact (hM.1.2 51 rfl).2) ?_
      refine wp_iload dX7_ringFrom_170 4 rfl ?_
      refine wv_iald n (vI h' 152 n) dX7_ringFrom_172 rfl (by (try simp only [liv_sI, liv_sL]); rw [hA.1]; exact (hM.1.2 51 rfl).1) rfl (by show n < 30; omega) rfl ?_
      refine wi_if_le (tgt := 203) (Int32.toInt (vI h' 152 n)) rfl dX7_ringFrom_173 (by decide) (fun c_3 => ?_) (fun c_3 => ?_)
      · refine wp_iinc (q := 4) (x := nI n) (v := nI (n + 1)) (lv' := [(4, .int (nI (n + 1))), (0, .ref 100), (1, .int (nI f)), (2, .int 0), (3, .int v)]) dX7_ringFrom_203 rfl (nI_1 _) (by decide) rfl ?_
        refine wp_goto (tgt := 142) dX7_ringFrom_206 (by decide) ?_
        refine wp_sub [1, 2, 3, 4, 0] rfl ?_
        exact ih (n + 1) (by omega) h' v (by omega) hA hD (LM_no hG (fun _ => c_3))
      · refine wp_iload_n dX7_ringFrom_176 rfl 3 rfl ?_
        refine wi_if_eq (tgt := 193) (Int32.toInt v) rfl dX7_ringFrom_177 (by decide) (fun c_4 => ?_) (fun c_4 => ?_)
        · refine wp_aload_n dX7_ringFrom_193 rfl 0 rfl ?_
          refine wp_getP (b := 152) dX7_ringFrom_194 flX7_132 rfl rfl (by (try simp only [liv_sI, liv_sL]); rw [hA.1]; exact hM.1.1) (by (try simp only [vP_sI, vP_sL]); rw [hA.2.1]; exact (hM.1.2 51 rfl).2) ?_
          refine wp_iload dX7_ringFrom_197 4 rfl ?_
          refine wv_iald n (vI h' 152 n) dX7_ringFrom_199 rfl (by (try simp only [liv_sI, liv_sL]); rw [hA.1]; exact (hM.1.2 51 rfl).1) rfl (by show n < 30; omega) rfl ?_
          refine wp_iconst (v := 1) dX7_ringFrom_200 (by decide) ?_
          refine wp_iadd dX7_ringFrom_201 ?_
          refine wp_istore_n (lv' := [(3, .int ((vI h' 152 n) + 1)), (0, .ref 100), (1, .int (nI f)), (2, .int 0), (4, .int (nI n))]) dX7_ringFrom_202 rfl (by decide) rfl ?_
          refine wp_iinc (q := 4) (x := nI n) (v := nI (n + 1)) (lv' := [(4, .int (nI (n + 1))), (3, .int ((vI h' 152 n) + 1)), (0, .ref 100), (1, .int (nI f)), (2, .int 0)]) dX7_ringFrom_203 rfl (nI_1 _) (by decide) rfl ?_
          refine wp_goto (tgt := 142) dX7_ringFrom_206 (by decide) ?_
          refine wp_sub [2, 3, 4, 1, 0] rfl ?_
          exact ih (n + 1) (by omega) h' _ (by omega) hA hD (LM_set hG (by omega) (Classical.byContradiction (fun z => c_2 ((hM.2.2.2.2 f n (by omega) (by omega)).mpr z))) (by omega) hby (Or.inl c_4))
        · refine wp_aload_n dX7_ringFrom_180 rfl 0 rfl ?_
          refine wp_getP (b := 152) dX7_ringFrom_181 flX7_132 rfl rfl (by (try simp only [liv_sI, liv_sL]); rw [hA.1]; exact hM.1.1) (by (try simp only [vP_sI, vP_sL]); rw [hA.2.1]; exact (hM.1.2 51 rfl).2) ?_
          refine wp_iload dX7_ringFrom_184 4 rfl ?_
          refine wv_iald n (vI h' 152 n) dX7_ringFrom_186 rfl (by (try simp only [liv_sI, liv_sL]); rw [hA.1]; exact (hM.1.2 51 rfl).1) rfl (by show n < 30; omega) rfl ?_
          refine wp_iconst (v := 1) dX7_ringFrom_187 (by decide) ?_
          refine wp_iadd dX7_ringFrom_188 ?_
          refine wp_iload_n dX7_ringFrom_189 rfl 3 rfl ?_
          refine wi_icmp_ge (tgt := 203) ((vI h' 152 n).toInt + 1) (Int32.toInt v) hby rfl dX7_ringFrom_190 (by decide) (fun c_5 => ?_) (fun c_5 => ?_)
          · refine wp_iinc (q := 4) (x := nI n) (v := nI (n + 1)) (lv' := [(4, .int (nI (n + 1))), (0, .ref 100), (1, .int (nI f)), (2, .int 0), (3, .int v)]) dX7_ringFrom_203 rfl (nI_1 _) (by decide) rfl ?_
            refine wp_goto (tgt := 142) dX7_ringFrom_206 (by decide) ?_
            refine wp_sub [1, 2, 3, 4, 0] rfl ?_
            exact ih (n + 1) (by omega) h' v (by omega) hA hD (LM_keep hG c_4 c_5)
          · refine wp_aload_n dX7_ringFrom_193 rfl 0 rfl ?_
            refine wp_getP (b := 152) dX7_ringFrom_194 flX7_132 rfl rfl (by (try simp only [liv_sI, liv_sL]); rw [hA.1]; exact hM.1.1) (by (try simp only [vP_sI, vP_sL]); rw [hA.2.1]; exact (hM.1.2 51 rfl).2) ?_
            refine wp_iload dX7_ringFrom_197 4 rfl ?_
            refine wv_iald n (vI h' 152 n) dX7_ringFrom_199 rfl (by (try simp only [liv_sI, liv_sL]); rw [hA.1]; exact (hM.1.2 51 rfl).1) rfl (by show n < 30; omega) rfl ?_
            refine wp_iconst (v := 1) dX7_ringFrom_200 (by decide) ?_
            refine wp_iadd dX7_ringFrom_201 ?_
            refine wp_istore_n (lv' := [(3, .int ((vI h' 152 n) + 1)), (0, .ref 100), (1, .int (nI f)), (2, .int 0), (4, .int (nI n))]) dX7_ringFrom_202 rfl (by decide) rfl ?_
            refine wp_iinc (q := 4) (x := nI n) (v := nI (n + 1)) (lv' := [(4, .int (nI (n + 1))), (3, .int ((vI h' 152 n) + 1)), (0, .ref 100), (1, .int (nI f)), (2, .int 0)]) dX7_ringFrom_203 rfl (nI_1 _) (by decide) rfl ?_
            refine wp_goto (tgt := 142) dX7_ringFrom_206 (by decide) ?_
            refine wp_sub [2, 3, 4, 1, 0] rfl ?_
            exact ih (n + 1) (by omega) h' _ (by omega) hA hD (LM_set hG (by omega) (Classical.byContradiction (fun z => c_2 ((hM.2.2.2.2 f n (by omega) (by omega)).mpr z))) (by omega) hby (Or.inr (by omega)))
set_option maxRecDepth 100000 in
set_option maxHeartbeats 4000000 in
theorem rf_s {g : GG} {h : HP} {Post : Option Value → HP → Prop} (ne : Nat) (E : Nat → Nat → Prop) (hM : ML h ne E) (f : Nat) (hf : f < ne) (hp : ∀ h' v, Ai 152 h h' → (∀ x, x < ne → Ds (RE E f) f x (vI h' 152 x).toInt) → RV E ne f v → Post (some (.int v)) h') : ∀ (k n : Nat), n + k = ne → ∀ (h' : HP) (v : Int32), Ai 152 h h' → ST E ne f n (vI h' 152) v → WP g mX7_ringFrom 36 [(0, .ref 100), (1, .int (nI f)), (2, .int v), (3, .int (nI n))] [] h' 0 0 Post := by
  intro k
  have hne := hM.2.2.1
  have hb := hM.2.2.2.1
  induction k with
  | zero =>
    intro n e0 h' v hA hS
    obtain rfl | rfl : v = 0 ∨ v = 1 := hS.2.elim (fun z => Or.inl z.1) (fun z => Or.inr z.1)
    · skip
      refine wp_iload_n dX7_ringFrom_36 rfl 2 rfl ?_
      refine wp_if_eq (tgt := 135) dX7_ringFrom_37 (by decide) (fun _ => ?_) (fun c_1 => absurd (by decide) c_1)
      refine wp_iconst (v := 0) dX7_ringFrom_135 (by decide) ?_
      refine wp_istore_n (lv' := [(3, .int 0), (0, .ref 100), (1, .int (nI f)), (2, .int 0)]) dX7_ringFrom_136 rfl (by decide) rfl ?_
      refine wp_iload_n dX7_ringFrom_137 rfl 2 rfl ?_
      refine wp_iconst (v := 1) dX7_ringFrom_138 (by decide) ?_
      refine wv_iadd (nI (f + 1)) (wN_add rfl rfl) dX7_ringFrom_139 ?_
      refine wp_istore (lv' := [(4, .int (nI (f + 1))), (3, .int 0), (0, .ref 100), (1, .int (nI f)), (2, .int 0)]) dX7_ringFrom_140 (by decide) rfl ?_
      refine wp_sub [2, 3, 4, 1, 0] rfl ?_
      exact rf_l ne E hM f hf hp (ne - (f + 1)) (f + 1) (by omega) h' 0 (by omega) hA (ST_end hb hf hS) (Or.inl ⟨rfl, fun x _ _ => by omega⟩)
    · have := ST_lt hb hS
      omega
  | succ k ih =>
    intro n e0 h' v hA hS
    obtain rfl | rfl : v = 0 ∨ v = 1 := hS.2.elim (fun z => Or.inl z.1) (fun z => Or.inr z.1)
    · skip
      refine wp_iload_n dX7_ringFrom_36 rfl 2 rfl ?_
      refine wp_if_eq (tgt := 135) dX7_ringFrom_37 (by decide) (fun _ => ?_) (fun c_1 => absurd (by decide) c_1)
      refine wp_iconst (v := 0) dX7_ringFrom_135 (by decide) ?_
      refine wp_istore_n (lv' := [(3, .int 0), (0, .ref 100), (1, .int (nI f)), (2, .int 0)]) dX7_ringFrom_136 rfl (by decide) rfl ?_
      refine wp_iload_n dX7_ringFrom_137 rfl 2 rfl ?_
      refine wp_iconst (v := 1) dX7_ringFrom_138 (by decide) ?_
      refine wv_iadd (nI (f + 1)) (wN_add rfl rfl) dX7_ringFrom_139 ?_
      refine wp_istore (lv' := [(4, .int (nI (f + 1))), (3, .int 0), (0, .ref 100), (1, .int (nI f)), (2, .int 0)]) dX7_ringFrom_140 (by decide) rfl ?_
      refine wp_sub [2, 3, 4, 1, 0] rfl ?_
      exact rf_l ne E hM f hf hp (ne - (f + 1)) (f + 1) (by omega) h' 0 (by omega) hA (ST_end hb hf hS) (Or.inl ⟨rfl, fun x _ _ => by omega⟩)
    · skip
      refine wp_iload_n dX7_ringFrom_36 rfl 2 rfl ?_
      refine wp_if_eq (tgt := 135) dX7_ringFrom_37 (by decide) (fun c_1 => absurd c_1 (by decide)) (fun _ => ?_)
      refine wp_iconst (v := 0) dX7_ringFrom_40 (by decide) ?_
      refine wp_istore_n (lv' := [(2, .int 0), (0, .ref 100), (1, .int (nI f)), (3, .int (nI n))]) dX7_ringFrom_41 rfl (by decide) rfl ?_
      refine wp_iload_n dX7_ringFrom_42 rfl 2 rfl ?_
      refine wp_iconst (v := 1) dX7_ringFrom_43 (by decide) ?_
      refine wv_iadd (nI (f + 1)) (wN_add rfl rfl) dX7_ringFrom_44 ?_
      refine wp_istore (lv' := [(4, .int (nI (f + 1))), (2, .int 0), (0, .ref 100), (1, .int (nI f)), (3, .int (nI n))]) dX7_ringFrom_45 (by decide) rfl ?_
      refine wp_sub [2, 3, 1, 4, 0] rfl ?_
      exact rf_e ne E hM f hf n (by omega) (fun h1 v1 q1 q2 => ih (n + 1) (by omega) h1 v1 q1 q2) (ne - (f + 1)) (f + 1) (by omega) h' 0 (by omega) hA (ST_in hf hS)
set_option maxRecDepth 100000 in
set_option maxHeartbeats 4000000 in
theorem rf_i {g : GG} {h : HP} {Post : Option Value → HP → Prop} (ne : Nat) (E : Nat → Nat → Prop) (hM : ML h ne E) (f : Nat) (hf : f < ne) (hp : ∀ h' v, Ai 152 h h' → (∀ x, x < ne → Ds (RE E f) f x (vI h' 152 x).toInt) → RV E ne f v → Post (some (.int v)) h') : ∀ (k n : Nat), n + k = ne → ∀ (h' : HP), Ai 152 h h' → (∀ x, x < n → Lv (RE E f) f 1 x (vI h' 152 x).toInt) → WP g mX7_ringFrom 2 [(0, .ref 100), (1, .int (nI f)), (2, .int (nI n))] [] h' 0 0 Post := by
  intro k
  have hne := hM.2.2.1
  have hb := hM.2.2.2.1
  induction k with
  | zero =>
    intro n e0 h' hA hI
    refine wp_iload_n dX7_ringFrom_2 rfl 2 rfl ?_
    refine wp_aload_n dX7_ringFrom_3 rfl 0 rfl ?_
    refine wv_getI (nI ne) dX7_ringFrom_4 flX7_246 rfl rfl (by (try simp only [liv_sI, liv_sL]); rw [hA.1]; exact hM.1.1) (by rw [hA.2.2.2 100 (by decide)]; exact hM.2.1) ?_
    refine wi_icmp_ge (tgt := 32) ((n : Nat)) ((ne : Nat)) (nIt (by omega)) (nIt (by omega)) dX7_ringFrom_7 (by decide) (fun _ => ?_) (fun c_1 => absurd (by omega) c_1)
    refine wp_iconst (v := 1) dX7_ringFrom_32 (by decide) ?_
    refine wp_istore_n (lv' := [(2, .int 1), (0, .ref 100), (1, .int (nI f))]) dX7_ringFrom_33 rfl (by decide) rfl ?_
    refine wp_iconst (v := 0) dX7_ringFrom_34 (by decide) ?_
    refine wp_istore_n (lv' := [(3, .int 0), (2, .int 1), (0, .ref 100), (1, .int (nI f))]) dX7_ringFrom_35 rfl (by decide) rfl ?_
    refine wp_sub [2, 3, 1, 0] rfl ?_
    obtain rfl : n = ne := by omega
    exact rf_s n E hM f hf hp n 0 (by omega) h' 1 hA ⟨hI, Or.inr ⟨rfl, f, hf, Mn_0 f⟩⟩
  | succ k ih =>
    intro n e0 h' hA hI
    refine wp_iload_n dX7_ringFrom_2 rfl 2 rfl ?_
    refine wp_aload_n dX7_ringFrom_3 rfl 0 rfl ?_
    refine wv_getI (nI ne) dX7_ringFrom_4 flX7_246 rfl rfl (by (try simp only [liv_sI, liv_sL]); rw [hA.1]; exact hM.1.1) (by rw [hA.2.2.2 100 (by decide)]; exact hM.2.1) ?_
    refine wi_icmp_ge (tgt := 32) ((n : Nat)) ((ne : Nat)) (nIt (by omega)) (nIt (by omega)) dX7_ringFrom_7 (by decide) (fun c_1 => absurd c_1 (by omega)) (fun _ => ?_)
    refine wp_aload_n dX7_ringFrom_10 rfl 0 rfl ?_
    refine wp_getP (b := 152) dX7_ringFrom_11 flX7_132 rfl rfl (by (try simp only [liv_sI, liv_sL]); rw [hA.1]; exact hM.1.1) (by (try simp only [vP_sI, vP_sL]); rw [hA.2.1]; exact (hM.1.2 51 rfl).2) ?_
    refine wp_iload_n dX7_ringFrom_14 rfl 2 rfl ?_
    refine wp_iload_n dX7_ringFrom_15 rfl 2 rfl ?_
    refine wp_iload_n dX7_ringFrom_16 rfl 1 rfl ?_
    refine wi_icmp_ne (tgt := 24) ((n : Nat)) ((f : Nat)) (nIt (by omega)) (nIt (by omega)) dX7_ringFrom_17 (by decide) (fun c_2 => ?_) (fun c_2 => ?_)
    · refine wp_iconst (v := -1) dX7_ringFrom_24 (by decide) ?_
      refine wv_iast n dX7_ringFrom_25 rfl (by (try simp only [liv_sI, liv_sL]); rw [hA.1]; exact (hM.1.2 51 rfl).1) rfl (by show n < 30; omega) ?_
      refine wp_iinc (q := 2) (x := nI n) (v := nI (n + 1)) (lv' := [(2, .int (nI (n + 1))), (0, .ref 100), (1, .int (nI f))]) dX7_ringFrom_26 rfl (nI_1 _) (by decide) rfl ?_
      refine wp_goto (tgt := 2) dX7_ringFrom_29 (by decide) ?_
      refine wp_sub [1, 2, 0] rfl ?_
      exact ih (n + 1) (by omega) _ (Ai_put hA) (fun x hx => by rw [vI_row]; show Lv (RE E f) f 1 x (if x = n then _ else _ : Int32).toInt; split; (next e => rw [e]; exact Lv_0 (fun e => absurd (by omega) c_2) (fun _ => by decide)); (next e => exact hI x (by omega)))
    · refine wp_iconst (v := 0) dX7_ringFrom_20 (by decide) ?_
      refine wp_goto (tgt := 25) dX7_ringFrom_21 (by decide) ?_
      refine wv_iast n dX7_ringFrom_25 rfl (by (try simp only [liv_sI, liv_sL]); rw [hA.1]; exact (hM.1.2 51 rfl).1) rfl (by show n < 30; omega) ?_
      refine wp_iinc (q := 2) (x := nI n) (v := nI (n + 1)) (lv' := [(2, .int (nI (n + 1))), (0, .ref 100), (1, .int (nI f))]) dX7_ringFrom_26 rfl (nI_1 _) (by decide) rfl ?_
      refine wp_goto (tgt := 2) dX7_ringFrom_29 (by decide) ?_
      refine wp_sub [1, 2, 0] rfl ?_
      exact ih (n + 1) (by omega) _ (Ai_put hA) (fun x hx => by rw [vI_row]; show Lv (RE E f) f 1 x (if x = n then _ else _ : Int32).toInt; split; (next e => rw [e]; exact Lv_0 (fun _ => by decide) (fun e => absurd (by omega) e)); (next e => exact hI x (by omega)))
set_option maxRecDepth 100000 in
set_option maxHeartbeats 4000000 in
theorem cm_ringFrom {g : GG} {h : HP} {Post : Option Value → HP → Prop} (ne : Nat) (E : Nat → Nat → Prop) (hM : ML h ne E) (f : Nat) (hf : f < ne) (hp : ∀ h' v, Ai 152 h h' → (∀ x, x < ne → Ds (RE E f) f x (vI h' 152 x).toInt) → RV E ne f v → Post (some (.int v)) h') : CT g mX7_ringFrom [.ref 100, .int (nI f)] h Post := by
  show WP g mX7_ringFrom 0 [(0, .ref 100), (1, .int (nI f))] [] h 0 0 Post
  refine wp_iconst (v := 0) dX7_ringFrom_0 (by decide) ?_
  refine wp_istore_n (lv' := [(2, .int 0), (0, .ref 100), (1, .int (nI f))]) dX7_ringFrom_1 rfl (by decide) rfl ?_
  refine wp_sub [1, 2, 0] rfl ?_
  exact rf_i ne E hM f hf hp ne 0 (by omega) h (Ai_rf 152 h) (fun _ z => absurd z (Nat.not_lt_zero _))
theorem RgV_f {Q : Nat → Nat → Prop} {n : Nat} {fi li : Int} (h : RgV Q n fi li) (hl : li = 0) : fi < 0 := by
  rcases h with ⟨h1, _⟩ | ⟨f, L, _, h2, h3, _⟩ <;> omega
theorem RgV_g {Q : Nat → Nat → Prop} {n : Nat} {fi li : Int} (h : RgV Q n fi li) (hl : ¬ li = 0) : 0 ≤ fi := by
  rcases h with ⟨_, h1, _⟩ | ⟨f, L, h2, _⟩ <;> omega
set_option maxRecDepth 100000 in
set_option maxHeartbeats 4000000 in
theorem rg_p {g : GG} {h : HP} {Post : Option Value → HP → Prop} (ne : Nat) (E : Nat → Nat → Prop) (hM : ML h ne E) (x : Int32) (hnext : ∀ h1 li fi, Ai 152 h h1 → RgV (Qm E) ne (Int32.toInt fi) (Int32.toInt li) → WP g mX7_ring 51 [(0, .ref 100), (1, .int x), (2, .int li), (3, .int fi)] [] h1 0 0 Post) : ∀ (k n : Nat), n + k = ne → ∀ (h' : HP) (li fi : Int32), Ai 152 h h' → RgV (Qm E) n fi.toInt li.toInt → WP g mX7_ring 7 [(0, .ref 100), (1, .int x), (2, .int li), (3, .int fi), (4, .int (nI n))] [] h' 0 0 Post := by
  intro k
  have hne := hM.2.2.1
  have hb := hM.2.2.2.1
  induction k with
  | zero =>
    intro n e0 h' li fi hA hG
    refine wp_iload dX7_ring_7 4 rfl ?_
    refine wp_aload_n dX7_ring_9 rfl 0 rfl ?_
    refine wv_getI (nI ne) dX7_ring_10 flX7_246 rfl rfl (by (try simp only [liv_sI, liv_sL]); rw [hA.1]; exact hM.1.1) (by rw [hA.2.2.2 100 (by decide)]; exact hM.2.1) ?_
    refine wi_icmp_ge (tgt := 51) ((n : Nat)) ((ne : Nat)) (nIt (by omega)) (nIt (by omega)) dX7_ring_13 (by decide) (fun _ => ?_) (fun c_1 => absurd (by omega) c_1)
    refine wp_sub [0, 1, 2, 3] rfl ?_
    obtain rfl : n = ne := by omega
    exact hnext h' li fi hA hG
  | succ k ih =>
    intro n e0 h' li fi hA hG
    refine wp_iload dX7_ring_7 4 rfl ?_
    refine wp_aload_n dX7_ring_9 rfl 0 rfl ?_
    refine wv_getI (nI ne) dX7_ring_10 flX7_246 rfl rfl (by (try simp only [liv_sI, liv_sL]); rw [hA.1]; exact hM.1.1) (by rw [hA.2.2.2 100 (by decide)]; exact hM.2.1) ?_
    refine wi_icmp_ge (tgt := 51) ((n : Nat)) ((ne : Nat)) (nIt (by omega)) (nIt (by omega)) dX7_ring_13 (by decide) (fun c_1 => absurd c_1 (by omega)) (fun _ => ?_)
    refine wp_aload_n dX7_ring_16 rfl 0 rfl ?_
    refine wp_iload dX7_ring_17 4 rfl ?_
    refine wp_callV mX7_ringFrom 100 [.int (nI n)] [] (c := 7) dX7_ring_19 iX7_ringFrom (fun _ => trivial) mlX7_266 imX7_ringFrom seX7_ringFrom (by decide) rfl rfl ⟨by decide, by decide⟩ rfl rfl (Nat.le_of_ble_eq_true rfl) (Nat.le_of_ble_eq_true rfl) (by decide) (by decide) ?_
    refine cm_ringFrom ne E (ML_ai (by decide) hM hA) n (by omega) (fun h1 v hA1 hD1 hV => ?_)
    show WP g mX7_ring 22 [(0, .ref 100), (1, .int x), (2, .int li), (3, .int fi), (4, .int (nI n))] [.int v] _ 0 0 _
    refine wp_istore (lv' := [(5, .int v), (0, .ref 100), (1, .int x), (2, .int li), (3, .int fi), (4, .int (nI n))]) dX7_ring_22 (by decide) rfl ?_
    refine wp_iload dX7_ring_24 0 rfl ?_
    refine wi_if_le (tgt := 45) (Int32.toInt v) rfl dX7_ring_26 (by decide) (fun c_2 => ?_) (fun c_2 => ?_)
    · refine wp_iinc (q := 5) (x := nI n) (v := nI (n + 1)) (lv' := [(4, .int (nI (n + 1))), (5, .int v), (0, .ref 100), (1, .int x), (2, .int li), (3, .int fi)]) dX7_ring_45 rfl (nI_1 _) (by decide) rfl ?_
      refine wp_goto (tgt := 7) dX7_ring_48 (by decide) ?_
      refine wp_sub [2, 3, 4, 5, 0] rfl ?_
      have hA2 := Ai_tr hA hA1
      exact ih (n + 1) (by omega) h1 li fi hA2 (RgV_no hG (hV.elim (fun z => z.2) (fun ⟨L, z1, z2, z3, _⟩ => by exfalso; have q := c_2; rw [z1, nIt (by omega)] at q; omega)))
    · refine wp_iload_n dX7_ring_29 rfl 3 rfl ?_
      refine wi_if_eq (tgt := 39) (Int32.toInt li) rfl dX7_ring_30 (by decide) (fun c_3 => ?_) (fun c_3 => ?_)
      · refine wp_iload dX7_ring_39 0 rfl ?_
        refine wp_istore_n (lv' := [(2, .int v), (5, .int v), (0, .ref 100), (1, .int x), (3, .int fi), (4, .int (nI n))]) dX7_ring_41 rfl (by decide) rfl ?_
        refine wp_iload dX7_ring_42 5 rfl ?_
        refine wp_istore_n (lv' := [(3, .int (nI n)), (2, .int v), (5, .int v), (0, .ref 100), (1, .int x), (4, .int (nI n))]) dX7_ring_44 rfl (by decide) rfl ?_
        refine wp_iinc (q := 5) (x := nI n) (v := nI (n + 1)) (lv' := [(4, .int (nI (n + 1))), (3, .int (nI n)), (2, .int v), (5, .int v), (0, .ref 100), (1, .int x)]) dX7_ring_45 rfl (nI_1 _) (by decide) rfl ?_
        refine wp_goto (tgt := 7) dX7_ring_48 (by decide) ?_
        refine wp_sub [4, 5, 2, 1, 0] rfl ?_
        have hA2 := Ai_tr hA hA1
        obtain ⟨L, rfl, z2, z3, z4, z5⟩ := hV.resolve_left (fun z => c_2 (by rw [z.1]; decide))
        have zq : (nI L).toInt = (L : Int) := nIt (by omega)
        exact ih (n + 1) (by omega) h1 (nI L) (nI n) hA2 (by rw [zq, nIt (by omega)]; exact RgV_set hG z2 z4 z5 (Or.inl (RgV_f hG c_3)))
      · refine wp_iload dX7_ring_33 0 rfl ?_
        refine wp_iload_n dX7_ring_35 rfl 3 rfl ?_
        refine wi_icmp_ge (tgt := 45) (Int32.toInt v) (Int32.toInt li) rfl rfl dX7_ring_36 (by decide) (fun c_4 => ?_) (fun c_4 => ?_)
        · refine wp_iinc (q := 5) (x := nI n) (v := nI (n + 1)) (lv' := [(4, .int (nI (n + 1))), (5, .int v), (0, .ref 100), (1, .int x), (2, .int li), (3, .int fi)]) dX7_ring_45 rfl (nI_1 _) (by decide) rfl ?_
          refine wp_goto (tgt := 7) dX7_ring_48 (by decide) ?_
          refine wp_sub [2, 3, 4, 5, 0] rfl ?_
          have hA2 := Ai_tr hA hA1
          obtain ⟨L, rfl, z2, z3, z4, z5⟩ := hV.resolve_left (fun z => c_2 (by rw [z.1]; decide))
          have zq : (nI L).toInt = (L : Int) := nIt (by omega)
          exact ih (n + 1) (by omega) h1 li fi hA2 (RgV_keep hG (RgV_g hG c_3) (by omega) z5)
        · refine wp_iload dX7_ring_39 0 rfl ?_
          refine wp_istore_n (lv' := [(2, .int v), (5, .int v), (0, .ref 100), (1, .int x), (3, .int fi), (4, .int (nI n))]) dX7_ring_41 rfl (by decide) rfl ?_
          refine wp_iload dX7_ring_42 5 rfl ?_
          refine wp_istore_n (lv' := [(3, .int (nI n)), (2, .int v), (5, .int v), (0, .ref 100), (1, .int x), (4, .int (nI n))]) dX7_ring_44 rfl (by decide) rfl ?_
          refine wp_iinc (q := 5) (x := nI n) (v := nI (n + 1)) (lv' := [(4, .int (nI (n + 1))), (3, .int (nI n)), (2, .int v), (5, .int v), (0, .ref 100), (1, .int x)]) dX7_ring_45 rfl (nI_1 _) (by decide) rfl ?_
          refine wp_goto (tgt := 7) dX7_ring_48 (by decide) ?_
          refine wp_sub [4, 5, 2, 1, 0] rfl ?_
          have hA2 := Ai_tr hA hA1
          obtain ⟨L, rfl, z2, z3, z4, z5⟩ := hV.resolve_left (fun z => c_2 (by rw [z.1]; decide))
          have zq : (nI L).toInt = (L : Int) := nIt (by omega)
          exact ih (n + 1) (by omega) h1 (nI L) (nI n) hA2 (by rw [zq, nIt (by omega)]; exact RgV_set hG z2 z4 z5 (Or.inr (by omega)))
theorem Wk_step {E : Nat → Nat → Prop} {ne f L i u n : Nat} (hb : ∀ a b, E a b → a < ne ∧ b < ne) (hR : RgN (Qc E) ne f L) (hu : Wk E f L i u) (hi : i + 1 < L) (hfn : f < n) (hE : E u n) (hm : Mn (RE E f) (L - 1 - i) n f) (hlow : ∀ g, f < g → g < n → E u g → ¬ Mn (RE E f) (L - 1 - i) g f) : Wk E f L (i + 1) n := by
  have q := (Wk_mod hb hR hu hi (g := n)).mpr ⟨hfn, hE, hm⟩
  refine ⟨u, hu, q.1, q.2, fun g hg hh => ?_⟩
  have w := (Wk_mod hb hR hu hi (g := g)).mp hh
  exact hlow g w.1 hg w.2.1 w.2.2
theorem nI_sub2 {L i : Nat} (h : i + 1 ≤ L) : nI L - 1 - nI i = nI (L - 1 - i) := by
  obtain ⟨r, rfl⟩ : ∃ r, L = r + i + 1 := ⟨L - i - 1, by omega⟩
  rw [nI_pred, show r + i + 1 - 1 - i = r by omega, ← wN_add rfl rfl]
  rw [Int32.add_sub_cancel]
set_option maxRecDepth 100000 in
set_option maxHeartbeats 4000000 in
theorem rg_q {g : GG} {h : HP} {Post : Option Value → HP → Prop} (ne : Nat) (E : Nat → Nat → Prop) (hM : ML h ne E) (f : Nat) (L : Nat) (hR : RgN (Qc E) ne f L) (h' : HP) (hA : Ai 152 h h') (hD : ∀ x, x < ne → Ds (RE E f) f x (vI h' 152 x).toInt) (q : Nat) (hq : q < L) (hL : L ≤ 30) (i : Nat) (hi : i < q) (u : Nat) (hu : Wk E f L i u) (t : Nat) (htn : t < ne) (hE : E u t) (hm : Mn (RE E f) (L - 1 - i) t f) (hnext : ∀ n, Wk E f L (i + 1) n → WP g mX7_ring 84 [(0, .ref 100), (1, .int (nI q)), (2, .int (nI L)), (3, .int (nI f)), (4, .int (nI n)), (5, .int (nI (i + 1)))] [] h' 0 0 Post) : ∀ (k n : Nat), n + k = t → f < n → (∀ g, f < g → g < n → E u g → ¬ Mn (RE E f) (L - 1 - i) g f) → WP g mX7_ring 95 [(0, .ref 100), (1, .int (nI q)), (2, .int (nI L)), (3, .int (nI f)), (4, .int (nI u)), (5, .int (nI i)), (6, .int (nI n))] [] h' 0 0 Post := by
  intro k
  have hne := hM.2.2.1
  have hb := hM.2.2.2.1
  induction k with
  | zero =>
    intro n e0 hfn hlow
    have hsb : (nI L - 1 - nI i).toInt = ((L - 1 - i : Nat) : Int) := by
      rw [show nI L - 1 - nI i = nI (L - 1 - i) from nI_sub2 (by omega)]; exact nIt (by omega)
    have hun := Wk_lt hb hR.1 hu
    refine wp_aload_n dX7_ring_95 rfl 0 rfl ?_
    refine wp_getP (b := 140) dX7_ring_96 flX7_111 rfl rfl (by (try simp only [liv_sI, liv_sL]); rw [hA.1]; exact hM.1.1) (by (try simp only [vP_sI, vP_sL]); rw [hA.2.1]; exact (hM.1.2 39 rfl).2) ?_
    refine wp_bipush (v := 30) dX7_ring_99 (by decide) ?_
    refine wp_iload dX7_ring_101 4 rfl ?_
    refine wv_imul (nI (30 * u)) (wN_mul rfl rfl) dX7_ring_103 ?_
    refine wp_iload dX7_ring_104 6 rfl ?_
    refine wv_iadd (nI ((30 * u) + n)) (wN_add rfl rfl) dX7_ring_106 ?_
    refine wv_bald (30 * u + n) (vI h 140 (30 * u + n)) dX7_ring_107 rfl (by (try simp only [liv_sI, liv_sL]); rw [hA.1]; exact (hM.1.2 39 rfl).1) rfl (by show 30 * u + n < 900; omega) (by rw [hA.2.2.2 140 (by decide)]) ?_
    refine wi_if_eq (tgt := 127) (Int32.toInt (vI h 140 (30 * u + n))) rfl dX7_ring_108 (by decide) (fun c_1 => ?_) (fun c_1 => ?_)
    · refine wp_iinc (q := 6) (x := nI n) (v := nI (n + 1)) (lv' := [(6, .int (nI (n + 1))), (0, .ref 100), (1, .int (nI q)), (2, .int (nI L)), (3, .int (nI f)), (4, .int (nI u)), (5, .int (nI i))]) dX7_ring_127 rfl (nI_1 _) (by decide) rfl ?_
      refine wp_goto (tgt := 95) dX7_ring_130 (by decide) ?_
      obtain rfl : n = t := by omega
      exact absurd hE ((hM.2.2.2.2 u n (by omega) (by omega)).mp c_1)
    · refine wp_aload_n dX7_ring_111 rfl 0 rfl ?_
      refine wp_getP (b := 152) dX7_ring_112 flX7_132 rfl rfl (by (try simp only [liv_sI, liv_sL]); rw [hA.1]; exact hM.1.1) (by (try simp only [vP_sI, vP_sL]); rw [hA.2.1]; exact (hM.1.2 51 rfl).2) ?_
      refine wp_iload dX7_ring_115 6 rfl ?_
      refine wv_iald n (vI h' 152 n) dX7_ring_117 rfl (by (try simp only [liv_sI, liv_sL]); rw [hA.1]; exact (hM.1.2 51 rfl).1) rfl (by show n < 30; omega) rfl ?_
      refine wp_iload_n dX7_ring_118 rfl 2 rfl ?_
      refine wp_iconst (v := 1) dX7_ring_119 (by decide) ?_
      refine wp_isub dX7_ring_120 ?_
      refine wp_iload dX7_ring_121 5 rfl ?_
      refine wp_isub dX7_ring_123 ?_
      refine wi_icmp_eq (tgt := 133) (Int32.toInt (vI h' 152 n)) (((L - 1 - i : Nat) : Int)) rfl hsb dX7_ring_124 (by decide) (fun c_2 => ?_) (fun c_2 => ?_)
      · refine wp_iload dX7_ring_133 6 rfl ?_
        refine wp_istore (lv' := [(4, .int (nI n)), (0, .ref 100), (1, .int (nI q)), (2, .int (nI L)), (3, .int (nI f)), (5, .int (nI i)), (6, .int (nI n))]) dX7_ring_135 (by decide) rfl ?_
        refine wp_iinc (q := 5) (x := nI i) (v := nI (i + 1)) (lv' := [(5, .int (nI (i + 1))), (4, .int (nI n)), (0, .ref 100), (1, .int (nI q)), (2, .int (nI L)), (3, .int (nI f)), (6, .int (nI n))]) dX7_ring_137 rfl (nI_1 _) (by decide) rfl ?_
        refine wp_goto (tgt := 84) dX7_ring_140 (by decide) ?_
        refine wp_sub [2, 3, 4, 5, 1, 0] rfl ?_
        exact hnext n (Wk_step hb hR hu (by omega) (by omega) (Classical.byContradiction (fun z => c_1 ((hM.2.2.2.2 u n (by omega) (by omega)).mpr z))) ((Ds_is (hD n (by omega))).mp (by omega)) hlow)
      · refine wp_iinc (q := 6) (x := nI n) (v := nI (n + 1)) (lv' := [(6, .int (nI (n + 1))), (0, .ref 100), (1, .int (nI q)), (2, .int (nI L)), (3, .int (nI f)), (4, .int (nI u)), (5, .int (nI i))]) dX7_ring_127 rfl (nI_1 _) (by decide) rfl ?_
        refine wp_goto (tgt := 95) dX7_ring_130 (by decide) ?_
        obtain rfl : n = t := by omega
        exact absurd ((Ds_is (hD n (by omega))).mpr hm) c_2
  | succ k ih =>
    intro n e0 hfn hlow
    have hsb : (nI L - 1 - nI i).toInt = ((L - 1 - i : Nat) : Int) := by
      rw [show nI L - 1 - nI i = nI (L - 1 - i) from nI_sub2 (by omega)]; exact nIt (by omega)
    have hun := Wk_lt hb hR.1 hu
    refine wp_aload_n dX7_ring_95 rfl 0 rfl ?_
    refine wp_getP (b := 140) dX7_ring_96 flX7_111 rfl rfl (by (try simp only [liv_sI, liv_sL]); rw [hA.1]; exact hM.1.1) (by (try simp only [vP_sI, vP_sL]); rw [hA.2.1]; exact (hM.1.2 39 rfl).2) ?_
    refine wp_bipush (v := 30) dX7_ring_99 (by decide) ?_
    refine wp_iload dX7_ring_101 4 rfl ?_
    refine wv_imul (nI (30 * u)) (wN_mul rfl rfl) dX7_ring_103 ?_
    refine wp_iload dX7_ring_104 6 rfl ?_
    refine wv_iadd (nI ((30 * u) + n)) (wN_add rfl rfl) dX7_ring_106 ?_
    refine wv_bald (30 * u + n) (vI h 140 (30 * u + n)) dX7_ring_107 rfl (by (try simp only [liv_sI, liv_sL]); rw [hA.1]; exact (hM.1.2 39 rfl).1) rfl (by show 30 * u + n < 900; omega) (by rw [hA.2.2.2 140 (by decide)]) ?_
    refine wi_if_eq (tgt := 127) (Int32.toInt (vI h 140 (30 * u + n))) rfl dX7_ring_108 (by decide) (fun c_1 => ?_) (fun c_1 => ?_)
    · refine wp_iinc (q := 6) (x := nI n) (v := nI (n + 1)) (lv' := [(6, .int (nI (n + 1))), (0, .ref 100), (1, .int (nI q)), (2, .int (nI L)), (3, .int (nI f)), (4, .int (nI u)), (5, .int (nI i))]) dX7_ring_127 rfl (nI_1 _) (by decide) rfl ?_
      refine wp_goto (tgt := 95) dX7_ring_130 (by decide) ?_
      refine wp_sub [1, 2, 3, 4, 5, 6, 0] rfl ?_
      exact ih (n + 1) (by omega) (by omega) (fun g hg1 hg2 hE hm => by
  rcases Nat.lt_succ_iff_lt_or_eq.mp hg2 with y | y
  · exact hlow g hg1 y hE hm
  · subst y; exact (fun z _ => absurd z ((hM.2.2.2.2 u g (by omega) (by omega)).mp c_1)) hE hm)
    · refine wp_aload_n dX7_ring_111 rfl 0 rfl ?_
      refine wp_getP (b := 152) dX7_ring_112 flX7_132 rfl rfl (by (try simp only [liv_sI, liv_sL]); rw [hA.1]; exact hM.1.1) (by (try simp only [vP_sI, vP_sL]); rw [hA.2.1]; exact (hM.1.2 51 rfl).2) ?_
      refine wp_iload dX7_ring_115 6 rfl ?_
      refine wv_iald n (vI h' 152 n) dX7_ring_117 rfl (by (try simp only [liv_sI, liv_sL]); rw [hA.1]; exact (hM.1.2 51 rfl).1) rfl (by show n < 30; omega) rfl ?_
      refine wp_iload_n dX7_ring_118 rfl 2 rfl ?_
      refine wp_iconst (v := 1) dX7_ring_119 (by decide) ?_
      refine wp_isub dX7_ring_120 ?_
      refine wp_iload dX7_ring_121 5 rfl ?_
      refine wp_isub dX7_ring_123 ?_
      refine wi_icmp_eq (tgt := 133) (Int32.toInt (vI h' 152 n)) (((L - 1 - i : Nat) : Int)) rfl hsb dX7_ring_124 (by decide) (fun c_2 => ?_) (fun c_2 => ?_)
      · refine wp_iload dX7_ring_133 6 rfl ?_
        refine wp_istore (lv' := [(4, .int (nI n)), (0, .ref 100), (1, .int (nI q)), (2, .int (nI L)), (3, .int (nI f)), (5, .int (nI i)), (6, .int (nI n))]) dX7_ring_135 (by decide) rfl ?_
        refine wp_iinc (q := 5) (x := nI i) (v := nI (i + 1)) (lv' := [(5, .int (nI (i + 1))), (4, .int (nI n)), (0, .ref 100), (1, .int (nI q)), (2, .int (nI L)), (3, .int (nI f)), (6, .int (nI n))]) dX7_ring_137 rfl (nI_1 _) (by decide) rfl ?_
        refine wp_goto (tgt := 84) dX7_ring_140 (by decide) ?_
        refine wp_sub [2, 3, 4, 5, 1, 0] rfl ?_
        exact hnext n (Wk_step hb hR hu (by omega) (by omega) (Classical.byContradiction (fun z => c_1 ((hM.2.2.2.2 u n (by omega) (by omega)).mpr z))) ((Ds_is (hD n (by omega))).mp (by omega)) hlow)
      · refine wp_iinc (q := 6) (x := nI n) (v := nI (n + 1)) (lv' := [(6, .int (nI (n + 1))), (0, .ref 100), (1, .int (nI q)), (2, .int (nI L)), (3, .int (nI f)), (4, .int (nI u)), (5, .int (nI i))]) dX7_ring_127 rfl (nI_1 _) (by decide) rfl ?_
        refine wp_goto (tgt := 95) dX7_ring_130 (by decide) ?_
        refine wp_sub [1, 2, 3, 4, 5, 6, 0] rfl ?_
        exact ih (n + 1) (by omega) (by omega) (fun g hg1 hg2 hE hm => by
  rcases Nat.lt_succ_iff_lt_or_eq.mp hg2 with y | y
  · exact hlow g hg1 y hE hm
  · subst y; exact (fun _ z => c_2 ((Ds_is (hD g (by omega))).mpr z)) hE hm)
set_option maxRecDepth 100000 in
set_option maxHeartbeats 4000000 in
theorem rg_w {g : GG} {h : HP} {Post : Option Value → HP → Prop} (ne : Nat) (E : Nat → Nat → Prop) (hM : ML h ne E) (f : Nat) (L : Nat) (hR : RgN (Qc E) ne f L) (h' : HP) (hA : Ai 152 h h') (hD : ∀ x, x < ne → Ds (RE E f) f x (vI h' 152 x).toInt) (q : Nat) (hq : q < L) (hL : L ≤ 30) (hp : ∀ h', Ai 152 h h' → ∀ u, Wk E f L q u → Post (some (.long (Int32.toInt64 (nI u)))) h') : ∀ (k n : Nat), n + k = q → ∀ (u : Nat), Wk E f L n u → WP g mX7_ring 84 [(0, .ref 100), (1, .int (nI q)), (2, .int (nI L)), (3, .int (nI f)), (4, .int (nI u)), (5, .int (nI n))] [] h' 0 0 Post := by
  intro k
  have hne := hM.2.2.1
  have hb := hM.2.2.2.1
  induction k with
  | zero =>
    intro n e0 u hu
    refine wp_iload dX7_ring_84 5 rfl ?_
    refine wp_iload_n dX7_ring_86 rfl 1 rfl ?_
    refine wi_icmp_ge (tgt := 143) ((n : Nat)) ((q : Nat)) (nIt (by omega)) (nIt (by omega)) dX7_ring_87 (by decide) (fun _ => ?_) (fun c_1 => absurd (by omega) c_1)
    refine wp_iload dX7_ring_143 4 rfl ?_
    refine wp_i2l dX7_ring_145 ?_
    refine wp_lret dX7_ring_146 rfl (by decide) (by decide) ?_
    obtain rfl : n = q := by omega
    exact hp h' hA u hu
  | succ k ih =>
    intro n e0 u hu
    refine wp_iload dX7_ring_84 5 rfl ?_
    refine wp_iload_n dX7_ring_86 rfl 1 rfl ?_
    refine wi_icmp_ge (tgt := 143) ((n : Nat)) ((q : Nat)) (nIt (by omega)) (nIt (by omega)) dX7_ring_87 (by decide) (fun c_1 => absurd c_1 (by omega)) (fun _ => ?_)
    refine wp_iload_n dX7_ring_90 rfl 3 rfl ?_
    refine wp_iconst (v := 1) dX7_ring_91 (by decide) ?_
    refine wv_iadd (nI (f + 1)) (wN_add rfl rfl) dX7_ring_92 ?_
    refine wp_istore (lv' := [(6, .int (nI (f + 1))), (0, .ref 100), (1, .int (nI q)), (2, .int (nI L)), (3, .int (nI f)), (4, .int (nI u)), (5, .int (nI n))]) dX7_ring_93 (by decide) rfl ?_
    refine wp_sub [1, 2, 3, 4, 5, 6, 0] rfl ?_
    obtain ⟨t, t1, t2⟩ := Wk_ex hR hu (show n < L by omega)
    have t3 := (Wk_mod hb hR hu (by omega)).mp ⟨t1, t2⟩
    exact rg_q ne E hM f L hR h' hA hD q hq hL n (by omega) u hu t (hb _ _ t1).2 t3.2.1 t3.2.2 (fun m q1 => ih (n + 1) (by omega) m q1) (t - (f + 1)) (f + 1) (by have := t3.1; omega) (by omega) (fun g g1 g2 => by omega)
set_option maxRecDepth 100000 in
set_option maxHeartbeats 4000000 in
theorem rg_0 {g : GG} {h : HP} {Post : Option Value → HP → Prop} (ne : Nat) (E : Nat → Nat → Prop) (hM : ML h ne E) (h' : HP) (hA : Ai 152 h h') (x li fi : Int32) (hf : fi.toInt < 0) (hp : Post (some (.long (-9000000000000000000))) h') : WP g mX7_ring 51 [(0, .ref 100), (1, .int x), (2, .int li), (3, .int fi)] [] h' 0 0 Post := by
  have hne := hM.2.2.1
  have hb := hM.2.2.2.1
  refine wp_iload_n dX7_ring_51 rfl 3 rfl ?_
  refine wi_if_lt (tgt := 59) (Int32.toInt fi) rfl dX7_ring_52 (by decide) (fun _ => ?_) (fun c_1 => absurd (by omega) c_1)
  refine wp_ldc2 dX7_ring_59 cnX7_155 ?_
  refine wp_lret dX7_ring_62 rfl (by decide) (by decide) ?_
  exact hp
set_option maxRecDepth 100000 in
set_option maxHeartbeats 4000000 in
theorem rg_n {g : GG} {h : HP} {Post : Option Value → HP → Prop} (ne : Nat) (E : Nat → Nat → Prop) (hM : ML h ne E) (h' : HP) (hA : Ai 152 h h') (x li fi : Int32) (hx : x.toInt < 0) (hp : Post (some (.long (-9000000000000000000))) h') : WP g mX7_ring 51 [(0, .ref 100), (1, .int x), (2, .int li), (3, .int fi)] [] h' 0 0 Post := by
  have hne := hM.2.2.1
  have hb := hM.2.2.2.1
  refine wp_iload_n dX7_ring_51 rfl 3 rfl ?_
  refine wi_if_lt (tgt := 59) (Int32.toInt fi) rfl dX7_ring_52 (by decide) (fun c_1 => ?_) (fun c_1 => ?_)
  · refine wp_ldc2 dX7_ring_59 cnX7_155 ?_
    refine wp_lret dX7_ring_62 rfl (by decide) (by decide) ?_
    exact hp
  · refine wp_iload_n dX7_ring_55 rfl 1 rfl ?_
    refine wi_if_ge (tgt := 63) (Int32.toInt x) rfl dX7_ring_56 (by decide) (fun c_2 => absurd c_2 (by omega)) (fun _ => ?_)
    refine wp_ldc2 dX7_ring_59 cnX7_155 ?_
    refine wp_lret dX7_ring_62 rfl (by decide) (by decide) ?_
    exact hp
set_option maxRecDepth 100000 in
set_option maxHeartbeats 4000000 in
theorem rg_1 {g : GG} {h : HP} {Post : Option Value → HP → Prop} (ne : Nat) (E : Nat → Nat → Prop) (hM : ML h ne E) (h' : HP) (hA : Ai 152 h h') (x li fi : Int32) (hf : 0 ≤ fi.toInt) (hx : 0 ≤ x.toInt) (hl : li.toInt ≤ x.toInt) (hp : Post (some (.long (-1))) h') : WP g mX7_ring 51 [(0, .ref 100), (1, .int x), (2, .int li), (3, .int fi)] [] h' 0 0 Post := by
  have hne := hM.2.2.1
  have hb := hM.2.2.2.1
  refine wp_iload_n dX7_ring_51 rfl 3 rfl ?_
  refine wi_if_lt (tgt := 59) (Int32.toInt fi) rfl dX7_ring_52 (by decide) (fun c_1 => absurd c_1 (by omega)) (fun _ => ?_)
  refine wp_iload_n dX7_ring_55 rfl 1 rfl ?_
  refine wi_if_ge (tgt := 63) (Int32.toInt x) rfl dX7_ring_56 (by decide) (fun _ => ?_) (fun c_2 => absurd (by omega) c_2)
  refine wp_iload_n dX7_ring_63 rfl 1 rfl ?_
  refine wp_iload_n dX7_ring_64 rfl 2 rfl ?_
  refine wi_icmp_lt (tgt := 72) (Int32.toInt x) (Int32.toInt li) rfl rfl dX7_ring_65 (by decide) (fun c_3 => absurd c_3 (by omega)) (fun _ => ?_)
  refine wp_ldc2 dX7_ring_68 cnX7_244 ?_
  refine wp_lret dX7_ring_71 rfl (by decide) (by decide) ?_
  exact hp
set_option maxRecDepth 100000 in
set_option maxHeartbeats 4000000 in
theorem rg_y {g : GG} {h : HP} {Post : Option Value → HP → Prop} (ne : Nat) (E : Nat → Nat → Prop) (hM : ML h ne E) (h' : HP) (hA : Ai 152 h h') (f L : Nat) (hi : ∀ a, ¬ E a a) (hR : RgN (Qc E) ne f L) (q : Nat) (hq : q < L) (hL : L ≤ 30) (hp : ∀ h', Ai 152 h h' → ∀ u, Wk E f L q u → Post (some (.long (Int32.toInt64 (nI u)))) h') : WP g mX7_ring 51 [(0, .ref 100), (1, .int (nI q)), (2, .int (nI L)), (3, .int (nI f))] [] h' 0 0 Post := by
  have hne := hM.2.2.1
  have hb := hM.2.2.2.1
  have hfn := hR.1
  refine wp_iload_n dX7_ring_51 rfl 3 rfl ?_
  refine wi_if_lt (tgt := 59) ((f : Nat)) (nIt (by omega)) dX7_ring_52 (by decide) (fun c_1 => absurd c_1 (by omega)) (fun _ => ?_)
  refine wp_iload_n dX7_ring_55 rfl 1 rfl ?_
  refine wi_if_ge (tgt := 63) ((q : Nat)) (nIt (by omega)) dX7_ring_56 (by decide) (fun _ => ?_) (fun c_2 => absurd (by omega) c_2)
  refine wp_iload_n dX7_ring_63 rfl 1 rfl ?_
  refine wp_iload_n dX7_ring_64 rfl 2 rfl ?_
  refine wi_icmp_lt (tgt := 72) ((q : Nat)) ((L : Nat)) (nIt (by omega)) (nIt (by omega)) dX7_ring_65 (by decide) (fun _ => ?_) (fun c_3 => absurd (by omega) c_3)
  refine wp_aload_n dX7_ring_72 rfl 0 rfl ?_
  refine wp_iload_n dX7_ring_73 rfl 3 rfl ?_
  refine wp_callV mX7_ringFrom 100 [.int (nI f)] [] (c := 7) dX7_ring_74 iX7_ringFrom (fun _ => trivial) mlX7_266 imX7_ringFrom seX7_ringFrom (by decide) rfl rfl ⟨by decide, by decide⟩ rfl rfl (Nat.le_of_ble_eq_true rfl) (Nat.le_of_ble_eq_true rfl) (by decide) (by decide) ?_
  refine cm_ringFrom ne E (ML_ai (by decide) hM hA) f hR.1 (fun h1 v hA1 hD1 hV => ?_)
  obtain ⟨L2, rfl, z2, z3, z4, z5⟩ := hV.resolve_left (fun z => z.2 L (Rg_min hb hi hR))
  obtain rfl : L = L2 := Nat.le_antisymm (hR.2.2 f L2 hR.1 (Qm_Qc z4)).1 (z5 L (Rg_min hb hi hR))
  show WP g mX7_ring 77 [(0, .ref 100), (1, .int (nI q)), (2, .int (nI L)), (3, .int (nI f))] [.int (nI L)] _ 0 0 _
  refine wp_istore_n (lv' := [(2, .int (nI L)), (0, .ref 100), (1, .int (nI q)), (3, .int (nI f))]) dX7_ring_77 rfl (by decide) rfl ?_
  refine wp_iload_n dX7_ring_78 rfl 3 rfl ?_
  refine wp_istore (lv' := [(4, .int (nI f)), (2, .int (nI L)), (0, .ref 100), (1, .int (nI q)), (3, .int (nI f))]) dX7_ring_79 (by decide) rfl ?_
  refine wp_iconst (v := 0) dX7_ring_81 (by decide) ?_
  refine wp_istore (lv' := [(5, .int 0), (4, .int (nI f)), (2, .int (nI L)), (0, .ref 100), (1, .int (nI q)), (3, .int (nI f))]) dX7_ring_82 (by decide) rfl ?_
  refine wp_pc (pc' := 84) rfl ?_
  refine wp_sub [3, 4, 2, 5, 1, 0] rfl ?_
  exact rg_w ne E hM f L hR h1 (Ai_tr hA hA1) hD1 q hq hL hp q 0 (by omega) f rfl
set_option maxRecDepth 100000 in
set_option maxHeartbeats 4000000 in
theorem cm_ring0 {g : GG} {h : HP} {Post : Option Value → HP → Prop} (ne : Nat) (E : Nat → Nat → Prop) (hM : ML h ne E) (x : Int32) (hn : (∀ e m, ¬ Qc E m e) ∨ x.toInt < 0) (hp : ∀ h', Ai 152 h h' → Post (some (.long (-9000000000000000000))) h') : CT g mX7_ring [.ref 100, .int x] h Post := by
  show WP g mX7_ring 0 [(0, .ref 100), (1, .int x)] [] h 0 0 Post
  have hne := hM.2.2.1
  have hb := hM.2.2.2.1
  refine wp_iconst (v := 0) dX7_ring_0 (by decide) ?_
  refine wp_istore_n (lv' := [(2, .int 0), (0, .ref 100), (1, .int x)]) dX7_ring_1 rfl (by decide) rfl ?_
  refine wp_iconst (v := -1) dX7_ring_2 (by decide) ?_
  refine wp_istore_n (lv' := [(3, .int ((-1))), (2, .int 0), (0, .ref 100), (1, .int x)]) dX7_ring_3 rfl (by decide) rfl ?_
  refine wp_iconst (v := 0) dX7_ring_4 (by decide) ?_
  refine wp_istore (lv' := [(4, .int 0), (3, .int ((-1))), (2, .int 0), (0, .ref 100), (1, .int x)]) dX7_ring_5 (by decide) rfl ?_
  refine wp_sub [3, 4, 2, 1, 0] rfl ?_
  refine rg_p ne E hM x (fun h1 li fi hA hG => ?_) ne 0 (by omega) h 0 (-1) (Ai_rf 152 h) RgV_0
  rcases hn with hn | hn
  · exact rg_0 ne E hM h1 hA x li fi (hG.elim (fun z => by omega) (fun ⟨f, L, _, _, _, z⟩ => absurd (Qm_Qc z.2.1) (hn f L))) (hp h1 hA)
  · exact rg_n ne E hM h1 hA x li fi hn (hp h1 hA)
set_option maxRecDepth 100000 in
set_option maxHeartbeats 4000000 in
theorem cm_ring1 {g : GG} {h : HP} {Post : Option Value → HP → Prop} (ne : Nat) (E : Nat → Nat → Prop) (hM : ML h ne E) (hi : ∀ a, ¬ E a a) (f L : Nat) (hL1 : 1 ≤ L) (hR : RgN (Qc E) ne f L) (x : Int32) (hx : (L : Int) ≤ x.toInt) (hp : ∀ h', Ai 152 h h' → Post (some (.long (-1))) h') : CT g mX7_ring [.ref 100, .int x] h Post := by
  show WP g mX7_ring 0 [(0, .ref 100), (1, .int x)] [] h 0 0 Post
  have hne := hM.2.2.1
  have hb := hM.2.2.2.1
  refine wp_iconst (v := 0) dX7_ring_0 (by decide) ?_
  refine wp_istore_n (lv' := [(2, .int 0), (0, .ref 100), (1, .int x)]) dX7_ring_1 rfl (by decide) rfl ?_
  refine wp_iconst (v := -1) dX7_ring_2 (by decide) ?_
  refine wp_istore_n (lv' := [(3, .int ((-1))), (2, .int 0), (0, .ref 100), (1, .int x)]) dX7_ring_3 rfl (by decide) rfl ?_
  refine wp_iconst (v := 0) dX7_ring_4 (by decide) ?_
  refine wp_istore (lv' := [(4, .int 0), (3, .int ((-1))), (2, .int 0), (0, .ref 100), (1, .int x)]) dX7_ring_5 (by decide) rfl ?_
  refine wp_sub [3, 4, 2, 1, 0] rfl ?_
  refine rg_p ne E hM x (fun h1 li fi hA hG => ?_) ne 0 (by omega) h 0 (-1) (Ai_rf 152 h) RgV_0
  obtain ⟨e1, e2⟩ := Rg_same hb hi (Or.inr ⟨f, L, rfl, rfl, hL1, hR⟩) hG
  exact rg_1 ne E hM h1 hA x li fi (by omega) (by omega) (by omega) (hp h1 hA)
set_option maxRecDepth 100000 in
set_option maxHeartbeats 4000000 in
theorem cm_ring {g : GG} {h : HP} {Post : Option Value → HP → Prop} (ne : Nat) (E : Nat → Nat → Prop) (hM : ML h ne E) (hi : ∀ a, ¬ E a a) (f L : Nat) (hL1 : 1 ≤ L) (hL : L ≤ ne) (hR : RgN (Qc E) ne f L) (q : Nat) (hq : q < L) (hp : ∀ h', Ai 152 h h' → ∀ u, Wk E f L q u → Post (some (.long (Int32.toInt64 (nI u)))) h') : CT g mX7_ring [.ref 100, .int (nI q)] h Post := by
  show WP g mX7_ring 0 [(0, .ref 100), (1, .int (nI q))] [] h 0 0 Post
  have hne := hM.2.2.1
  have hb := hM.2.2.2.1
  refine wp_iconst (v := 0) dX7_ring_0 (by decide) ?_
  refine wp_istore_n (lv' := [(2, .int 0), (0, .ref 100), (1, .int (nI q))]) dX7_ring_1 rfl (by decide) rfl ?_
  refine wp_iconst (v := -1) dX7_ring_2 (by decide) ?_
  refine wp_istore_n (lv' := [(3, .int ((-1))), (2, .int 0), (0, .ref 100), (1, .int (nI q))]) dX7_ring_3 rfl (by decide) rfl ?_
  refine wp_iconst (v := 0) dX7_ring_4 (by decide) ?_
  refine wp_istore (lv' := [(4, .int 0), (3, .int ((-1))), (2, .int 0), (0, .ref 100), (1, .int (nI q))]) dX7_ring_5 (by decide) rfl ?_
  refine wp_sub [3, 4, 2, 1, 0] rfl ?_
  refine rg_p ne E hM (nI q) (fun h1 li fi hA hG => ?_) ne 0 (by omega) h 0 (-1) (Ai_rf 152 h) RgV_0
  obtain ⟨e1, e2⟩ := Rg_same hb hi (Or.inr ⟨f, L, rfl, rfl, hL1, hR⟩) hG
  obtain rfl : li = nI L := Int32.toInt.inj (by rw [← e2]; exact (nIt (by omega)).symm)
  obtain rfl : fi = nI f := Int32.toInt.inj (by rw [← e1]; have := hR.1; exact (nIt (by omega)).symm)
  exact rg_y ne E hM h1 hA f L hi hR q hq (by omega) hp
