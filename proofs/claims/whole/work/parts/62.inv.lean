/-! the relation between the class's cells and the model's -/
def Bn (n : Nat) : Int := 17592186044416 * ((n : Int) + 1)
def inB (n : Nat) (x : Int64) : Prop := -Bn n ≤ x.toInt ∧ x.toInt ≤ Bn n
theorem inB_up {n n' : Nat} {x : Int64} (hn : n ≤ n') (h : inB n x) : inB n' x := by unfold inB Bn at *; omega
def PI (a f : Nat) (h : HP) (nm : Nat) : Prop := ∀ i, i < nm → vI h (1000 + i) f = vI h a i
def PL (a f : Nat) (h : HP) (nm : Nat) : Prop := ∀ i, i < nm → vL h (1000 + i) f = vL h a i
def PW (a f : Nat) (h : HP) (nm : Nat) : Prop := ∀ i, i < nm → Int32.toInt64 (vI h (1000 + i) f) = vL h a i
def OW (h : HP) (nm : Nat) : Prop := ∀ i, i < nm → vI h 103 i = 3 ∨ (vL h (2000 + i) 1 = vL h 109 i ∧ vL h (2000 + i) 2 = vL h 110 i ∧ vL h (2000 + i) 3 = vL h 111 i)
def RG (h : HP) (nm : Nat) : Prop := ∀ i, i < nm → (0 ≤ (vI h 103 i).toInt ∧ (vI h 103 i).toInt ≤ 4) ∧ (0 ≤ (vL h 104 i).toInt ∧ (vL h 104 i).toInt ≤ 200) ∧ (0 ≤ (vL h 105 i).toInt ∧ (vL h 105 i).toInt ≤ 100000) ∧ (1 ≤ (vL h 107 i).toInt ∧ (vL h 107 i).toInt ≤ 100000) ∧ (1 ≤ (vL h 108 i).toInt ∧ (vL h 108 i).toInt ≤ 100000) ∧ (0 ≤ (vL h 106 i).toInt ∧ (vL h 106 i).toInt ≤ (vL h 100 0).toInt) ∧ (vI h 114 i = 0 ∨ vI h 114 i = 1)
def RB (n : Nat) (h : HP) (nm : Nat) : Prop := ∀ i, i < nm → (0 ≤ (vL h 111 i).toInt ∧ (vL h 111 i).toInt ≤ (mCn h i).toInt) ∧ (0 ≤ (vL h 116 i).toInt ∧ (vL h 116 i).toInt ≤ (mCn h i).toInt) ∧ inB n (vL h 109 i) ∧ inB n (vL h 110 i) ∧ inB n (vL h 115 i) ∧ inB n (vL h 112 i) ∧ inB n (vL h 113 i)
def RZ (h : HP) (nm : Nat) : Prop := ∀ i, nm ≤ i → i < 10 → vL h 111 i = 0 ∧ vL h 112 i = 0 ∧ vL h 113 i = 0 ∧ vI h 114 i = 0 ∧ vL h 116 i = 0 ∧ vI h 117 i = 0 ∧ vI h 118 i = 0
def HH (n : Nat) (h : HP) (nm i j : Nat) : Prop := j < nm ∧ j ≠ i ∧ vI h 119 (10 * i + j) = 1 ∧ hsp h (3000 + i) j = some (4000 + (10 * i + j)) ∧ (vL h (4000 + (10 * i + j)) 1 = vL h 120 (10 * i + j) ∧ vL h (4000 + (10 * i + j)) 2 = vL h 121 (10 * i + j) ∧ vL h (4000 + (10 * i + j)) 3 = vL h 122 (10 * i + j)) ∧ (0 ≤ (vL h 122 (10 * i + j)).toInt ∧ (vL h 122 (10 * i + j)).toInt ≤ (mCn h i).toInt) ∧ inB n (vL h 120 (10 * i + j)) ∧ inB n (vL h 121 (10 * i + j))
def HD (n : Nat) (h : HP) (nm : Nat) : Prop := ∀ i j, i < nm → j < 10 → (vI h 119 (10 * i + j) = 0 ∧ hsp h (3000 + i) j = none) ∨ HH n h nm i j
def HZ (h : HP) (nm : Nat) : Prop := ∀ i j, nm ≤ i → i < 10 → j < 10 → vI h 119 (10 * i + j) = 0
def L1 (n : Nat) (h : HP) (nm l f t : Nat) : Prop := f < nm ∧ t < nm ∧ f ≠ t ∧ (vP h (5000 + l) 0 = some (1000 + f) ∧ vP h (5000 + l) 1 = some (1000 + t)) ∧ (vI h 124 l = nI f ∧ vI h 125 l = nI t) ∧ (vI h (5000 + l) 3 = vI h 126 l ∧ 0 ≤ (vI h 126 l).toInt ∧ (vI h 126 l).toInt ≤ 3) ∧ (vL h (5000 + l) 2 = vL h 127 l ∧ 0 ≤ (vL h 127 l).toInt ∧ (vL h 127 l).toInt ≤ (mCn h f).toInt) ∧ vI h (5000 + l) 4 = vI h 128 l ∧ ((vI h 128 l = 0 ∧ ¬ vI h 126 l = 1) ∨ (vI h 128 l = 1 ∧ (vL h (5000 + l) 5 = vL h 129 l ∧ vL h (5000 + l) 6 = vL h 130 l) ∧ inB n (vL h 129 l) ∧ inB n (vL h 130 l)))
def LT (n : Nat) (h : HP) (nm nl : Nat) : Prop := ∀ l, l < nl → ∃ f t, L1 n h nm l f t
def S1 (n : Nat) (h : HP) (k : Nat) : Prop := vL h (6000 + k) 0 = vL h 132 k ∧ vL h (6000 + k) 1 = vL h 133 k ∧ vI h (6000 + k) 2 = vI h 134 k ∧ vI h (6000 + k) 3 = vI h 135 k ∧ inB n (vL h 132 k) ∧ inB n (vL h 133 k)
def RS (n : Nat) (h : HP) (ns : Nat) : Prop := ∀ k, k < ns → S1 n h k
def EV (n : Nat) (h : HP) (ne : Nat) : Prop := ∀ e, e < ne → vL h 11 e = vL h 137 e ∧ vL h 12 e = vL h 138 e ∧ inB n (vL h 137 e) ∧ inB n (vL h 138 e)
def CN1 (h : HP) (nm nl ns nk : Nat) : Prop := vI h 100 1 = nI nm ∧ vI h 100 22 = nI nl ∧ vI h 100 30 = nI ns ∧ vI h 100 38 = nI nk
def NW (n : Nat) (h : HP) : Prop := vL h 1 0 = vL h 100 0 ∧ 0 ≤ (vL h 100 0).toInt ∧ (vL h 100 0).toInt ≤ 1000000 * (n : Int)
def NC (n nl ns : Nat) (E : Nat → Nat → Prop) : Prop := nl ≤ n ∧ ns ≤ n ∧ ∀ a, ¬ E a a
def EZ (h : HP) (ne : Nat) : Prop := (∀ e, ne ≤ e → e < 30 → vI h 15 e = 0) ∧ ∀ a b, a < 30 → b < 30 → (ne ≤ a ∨ ne ≤ b) → vI h 140 (30 * a + b) = 0
def DS (h : HP) (ne : Nat) (E : Nat → Nat → Prop) : Prop := vI h 10 13 = 0 ∨ vI h 10 13 = 1 ∧ Dn E ne h
def IV (n : Nat) (h : HP) (nm nl ns ne nk : Nat) (fr to : Nat → Nat) (E : Nat → Nat → Prop) : Prop := SR h ∧ SM h nm ∧ SL h nm nl ∧ SS h ns ∧ SO h ne nk fr to E ∧ MW h ∧ ML h ne E ∧ CN1 h nm nl ns nk ∧ NW n h ∧ NC n nl ns E ∧ PI 103 1 h nm ∧ PI 114 7 h nm ∧ PI 117 14 h nm ∧ PI 118 15 h nm ∧ PW 104 2 h nm ∧ PW 105 3 h nm ∧ PL 106 4 h nm ∧ PW 107 5 h nm ∧ PW 108 6 h nm ∧ PL 112 10 h nm ∧ PL 113 11 h nm ∧ PL 115 12 h nm ∧ PL 116 13 h nm ∧ OW h nm ∧ RG h nm ∧ RB n h nm ∧ RZ h nm ∧ HD n h nm ∧ HZ h nm ∧ LT n h nm nl ∧ RS n h ns ∧ EV n h ne ∧ EZ h ne ∧ DS h ne E
theorem ivSR {n : Nat} {h : HP} {nm nl ns ne nk : Nat} {fr to : Nat → Nat} {E : Nat → Nat → Prop} (hI : IV n h nm nl ns ne nk fr to E) : SR h := hI.1
theorem ivSM {n : Nat} {h : HP} {nm nl ns ne nk : Nat} {fr to : Nat → Nat} {E : Nat → Nat → Prop} (hI : IV n h nm nl ns ne nk fr to E) : SM h nm := hI.2.1
theorem ivSL {n : Nat} {h : HP} {nm nl ns ne nk : Nat} {fr to : Nat → Nat} {E : Nat → Nat → Prop} (hI : IV n h nm nl ns ne nk fr to E) : SL h nm nl := hI.2.2.1
theorem ivSS {n : Nat} {h : HP} {nm nl ns ne nk : Nat} {fr to : Nat → Nat} {E : Nat → Nat → Prop} (hI : IV n h nm nl ns ne nk fr to E) : SS h ns := hI.2.2.2.1
theorem ivSO {n : Nat} {h : HP} {nm nl ns ne nk : Nat} {fr to : Nat → Nat} {E : Nat → Nat → Prop} (hI : IV n h nm nl ns ne nk fr to E) : SO h ne nk fr to E := hI.2.2.2.2.1
theorem ivMW {n : Nat} {h : HP} {nm nl ns ne nk : Nat} {fr to : Nat → Nat} {E : Nat → Nat → Prop} (hI : IV n h nm nl ns ne nk fr to E) : MW h := hI.2.2.2.2.2.1
theorem ivML {n : Nat} {h : HP} {nm nl ns ne nk : Nat} {fr to : Nat → Nat} {E : Nat → Nat → Prop} (hI : IV n h nm nl ns ne nk fr to E) : ML h ne E := hI.2.2.2.2.2.2.1
theorem ivCN {n : Nat} {h : HP} {nm nl ns ne nk : Nat} {fr to : Nat → Nat} {E : Nat → Nat → Prop} (hI : IV n h nm nl ns ne nk fr to E) : CN1 h nm nl ns nk := hI.2.2.2.2.2.2.2.1
theorem ivNW {n : Nat} {h : HP} {nm nl ns ne nk : Nat} {fr to : Nat → Nat} {E : Nat → Nat → Prop} (hI : IV n h nm nl ns ne nk fr to E) : NW n h := hI.2.2.2.2.2.2.2.2.1
theorem ivNC {n : Nat} {h : HP} {nm nl ns ne nk : Nat} {fr to : Nat → Nat} {E : Nat → Nat → Prop} (hI : IV n h nm nl ns ne nk fr to E) : NC n nl ns E := hI.2.2.2.2.2.2.2.2.2.1
theorem iv103 {n : Nat} {h : HP} {nm nl ns ne nk : Nat} {fr to : Nat → Nat} {E : Nat → Nat → Prop} (hI : IV n h nm nl ns ne nk fr to E) : PI 103 1 h nm := hI.2.2.2.2.2.2.2.2.2.2.1
theorem iv114 {n : Nat} {h : HP} {nm nl ns ne nk : Nat} {fr to : Nat → Nat} {E : Nat → Nat → Prop} (hI : IV n h nm nl ns ne nk fr to E) : PI 114 7 h nm := hI.2.2.2.2.2.2.2.2.2.2.2.1
theorem iv117 {n : Nat} {h : HP} {nm nl ns ne nk : Nat} {fr to : Nat → Nat} {E : Nat → Nat → Prop} (hI : IV n h nm nl ns ne nk fr to E) : PI 117 14 h nm := hI.2.2.2.2.2.2.2.2.2.2.2.2.1
theorem iv118 {n : Nat} {h : HP} {nm nl ns ne nk : Nat} {fr to : Nat → Nat} {E : Nat → Nat → Prop} (hI : IV n h nm nl ns ne nk fr to E) : PI 118 15 h nm := hI.2.2.2.2.2.2.2.2.2.2.2.2.2.1
theorem iv104 {n : Nat} {h : HP} {nm nl ns ne nk : Nat} {fr to : Nat → Nat} {E : Nat → Nat → Prop} (hI : IV n h nm nl ns ne nk fr to E) : PW 104 2 h nm := hI.2.2.2.2.2.2.2.2.2.2.2.2.2.2.1
theorem iv105 {n : Nat} {h : HP} {nm nl ns ne nk : Nat} {fr to : Nat → Nat} {E : Nat → Nat → Prop} (hI : IV n h nm nl ns ne nk fr to E) : PW 105 3 h nm := hI.2.2.2.2.2.2.2.2.2.2.2.2.2.2.2.1
theorem iv106 {n : Nat} {h : HP} {nm nl ns ne nk : Nat} {fr to : Nat → Nat} {E : Nat → Nat → Prop} (hI : IV n h nm nl ns ne nk fr to E) : PL 106 4 h nm := hI.2.2.2.2.2.2.2.2.2.2.2.2.2.2.2.2.1
theorem iv107 {n : Nat} {h : HP} {nm nl ns ne nk : Nat} {fr to : Nat → Nat} {E : Nat → Nat → Prop} (hI : IV n h nm nl ns ne nk fr to E) : PW 107 5 h nm := hI.2.2.2.2.2.2.2.2.2.2.2.2.2.2.2.2.2.1
theorem iv108 {n : Nat} {h : HP} {nm nl ns ne nk : Nat} {fr to : Nat → Nat} {E : Nat → Nat → Prop} (hI : IV n h nm nl ns ne nk fr to E) : PW 108 6 h nm := hI.2.2.2.2.2.2.2.2.2.2.2.2.2.2.2.2.2.2.1
theorem iv112 {n : Nat} {h : HP} {nm nl ns ne nk : Nat} {fr to : Nat → Nat} {E : Nat → Nat → Prop} (hI : IV n h nm nl ns ne nk fr to E) : PL 112 10 h nm := hI.2.2.2.2.2.2.2.2.2.2.2.2.2.2.2.2.2.2.2.1
theorem iv113 {n : Nat} {h : HP} {nm nl ns ne nk : Nat} {fr to : Nat → Nat} {E : Nat → Nat → Prop} (hI : IV n h nm nl ns ne nk fr to E) : PL 113 11 h nm := hI.2.2.2.2.2.2.2.2.2.2.2.2.2.2.2.2.2.2.2.2.1
theorem iv115 {n : Nat} {h : HP} {nm nl ns ne nk : Nat} {fr to : Nat → Nat} {E : Nat → Nat → Prop} (hI : IV n h nm nl ns ne nk fr to E) : PL 115 12 h nm := hI.2.2.2.2.2.2.2.2.2.2.2.2.2.2.2.2.2.2.2.2.2.1
theorem iv116 {n : Nat} {h : HP} {nm nl ns ne nk : Nat} {fr to : Nat → Nat} {E : Nat → Nat → Prop} (hI : IV n h nm nl ns ne nk fr to E) : PL 116 13 h nm := hI.2.2.2.2.2.2.2.2.2.2.2.2.2.2.2.2.2.2.2.2.2.2.1
theorem ivOW {n : Nat} {h : HP} {nm nl ns ne nk : Nat} {fr to : Nat → Nat} {E : Nat → Nat → Prop} (hI : IV n h nm nl ns ne nk fr to E) : OW h nm := hI.2.2.2.2.2.2.2.2.2.2.2.2.2.2.2.2.2.2.2.2.2.2.2.1
theorem ivRG {n : Nat} {h : HP} {nm nl ns ne nk : Nat} {fr to : Nat → Nat} {E : Nat → Nat → Prop} (hI : IV n h nm nl ns ne nk fr to E) : RG h nm := hI.2.2.2.2.2.2.2.2.2.2.2.2.2.2.2.2.2.2.2.2.2.2.2.2.1
theorem ivRB {n : Nat} {h : HP} {nm nl ns ne nk : Nat} {fr to : Nat → Nat} {E : Nat → Nat → Prop} (hI : IV n h nm nl ns ne nk fr to E) : RB n h nm := hI.2.2.2.2.2.2.2.2.2.2.2.2.2.2.2.2.2.2.2.2.2.2.2.2.2.1
theorem ivRZ {n : Nat} {h : HP} {nm nl ns ne nk : Nat} {fr to : Nat → Nat} {E : Nat → Nat → Prop} (hI : IV n h nm nl ns ne nk fr to E) : RZ h nm := hI.2.2.2.2.2.2.2.2.2.2.2.2.2.2.2.2.2.2.2.2.2.2.2.2.2.2.1
theorem ivHD {n : Nat} {h : HP} {nm nl ns ne nk : Nat} {fr to : Nat → Nat} {E : Nat → Nat → Prop} (hI : IV n h nm nl ns ne nk fr to E) : HD n h nm := hI.2.2.2.2.2.2.2.2.2.2.2.2.2.2.2.2.2.2.2.2.2.2.2.2.2.2.2.1
theorem ivHZ {n : Nat} {h : HP} {nm nl ns ne nk : Nat} {fr to : Nat → Nat} {E : Nat → Nat → Prop} (hI : IV n h nm nl ns ne nk fr to E) : HZ h nm := hI.2.2.2.2.2.2.2.2.2.2.2.2.2.2.2.2.2.2.2.2.2.2.2.2.2.2.2.2.1
theorem ivLT {n : Nat} {h : HP} {nm nl ns ne nk : Nat} {fr to : Nat → Nat} {E : Nat → Nat → Prop} (hI : IV n h nm nl ns ne nk fr to E) : LT n h nm nl := hI.2.2.2.2.2.2.2.2.2.2.2.2.2.2.2.2.2.2.2.2.2.2.2.2.2.2.2.2.2.1
theorem ivRS {n : Nat} {h : HP} {nm nl ns ne nk : Nat} {fr to : Nat → Nat} {E : Nat → Nat → Prop} (hI : IV n h nm nl ns ne nk fr to E) : RS n h ns := hI.2.2.2.2.2.2.2.2.2.2.2.2.2.2.2.2.2.2.2.2.2.2.2.2.2.2.2.2.2.2.1
theorem ivEV {n : Nat} {h : HP} {nm nl ns ne nk : Nat} {fr to : Nat → Nat} {E : Nat → Nat → Prop} (hI : IV n h nm nl ns ne nk fr to E) : EV n h ne := hI.2.2.2.2.2.2.2.2.2.2.2.2.2.2.2.2.2.2.2.2.2.2.2.2.2.2.2.2.2.2.2.1
theorem ivEZ {n : Nat} {h : HP} {nm nl ns ne nk : Nat} {fr to : Nat → Nat} {E : Nat → Nat → Prop} (hI : IV n h nm nl ns ne nk fr to E) : EZ h ne := hI.2.2.2.2.2.2.2.2.2.2.2.2.2.2.2.2.2.2.2.2.2.2.2.2.2.2.2.2.2.2.2.2.1
theorem ivDS {n : Nat} {h : HP} {nm nl ns ne nk : Nat} {fr to : Nat → Nat} {E : Nat → Nat → Prop} (hI : IV n h nm nl ns ne nk fr to E) : DS h ne E := hI.2.2.2.2.2.2.2.2.2.2.2.2.2.2.2.2.2.2.2.2.2.2.2.2.2.2.2.2.2.2.2.2.2
def Inv (n : Nat) (h : HP) : Prop := ∃ nm nl ns ne nk fr to E, IV n h nm nl ns ne nk fr to E
theorem SR_cg {h h' : HP} (hX : SR h) (eZ : ∀ b, b < 20 → liv h' b = liv h b) (eP : ∀ b k, (b = 1 ∨ b = 5) → vP h' b k = vP h b k) : SR h' := by
  unfold SR GW at *
  simp only [eZ 1 (by decide), eZ 2 (by decide), eZ 3 (by decide), eZ 4 (by decide), eZ 5 (by decide), eZ 6 (by decide), eZ 7 (by decide), eZ 8 (by decide), eZ 10 (by decide), eP 1 1 (by decide), eP 1 3 (by decide), eP 1 5 (by decide), eP 1 7 (by decide), eP 1 8 (by decide), eP 5 0 (by decide), eP 5 1 (by decide), eP 5 2 (by decide)]
  exact hX
theorem SM_cg {h h' : HP} {nm : Nat} (hX : SM h nm) (eZ : ∀ b, (1000 ≤ b ∧ b < 5000) → liv h' b = liv h b) (eP : ∀ b k, (b = 2 ∨ (1000 ≤ b ∧ b < 4000)) → vP h' b k = vP h b k) (eI : ∀ b k, ((b = 1 ∧ k = 2) ∨ (1000 ≤ b ∧ b < 1010 ∧ k = 0)) → vI h' b k = vI h b k) : SM h' nm := by
  obtain ⟨h1, h2, h3, h4⟩ := hX
  refine ⟨h1, by rw [eI 1 2 (by omega)]; exact h2, fun i hi => ?_, fun i hi hi2 => ?_⟩
  · obtain ⟨a1, a2, a3, a4, a5, a6, a7, a8, a9⟩ := h3 i hi
    refine ⟨by rw [eP _ _ (by omega)]; exact a1, by rw [eZ _ (by omega)]; exact a2, by rw [eZ _ (by omega)]; exact a3, by rw [eZ _ (by omega)]; exact a4, by rw [eP _ _ (by omega)]; exact a5, by rw [eP _ _ (by omega)]; exact a6, by rw [eI _ _ (by omega)]; exact a7, fun j b hj hb => ?_, fun j hj hb => ?_⟩
    · rw [eP _ _ (by omega)] at hb
      have := a8 j b hj hb
      exact ⟨this.1, by rw [eZ _ (by omega)]; exact this.2⟩
    · rw [eP _ _ (by omega)] at hb
      rw [eZ _ (by omega)]; exact a9 j hj hb
  · obtain ⟨a1, a2, a3, a4⟩ := h4 i hi hi2
    exact ⟨by rw [eZ _ (by omega)]; exact a1, by rw [eZ _ (by omega)]; exact a2, by rw [eZ _ (by omega)]; exact a3, fun j hj => by rw [eZ _ (by omega)]; exact a4 j hj⟩
theorem SL_cg {h h' : HP} {nm nl : Nat} (hX : SL h nm nl) (eZ : ∀ b, (5000 ≤ b ∧ b < 5200) → liv h' b = liv h b) (eP : ∀ b k, (b = 3 ∨ (5000 ≤ b ∧ b < 5200)) → vP h' b k = vP h b k) (eI : ∀ b k, (b = 1 ∧ k = 4) → vI h' b k = vI h b k) : SL h' nm nl := by
  obtain ⟨h1, h2, h3, h4⟩ := hX
  refine ⟨h1, by rw [eI 1 4 (by omega)]; exact h2, fun l hl => ?_, fun l hl hl2 => by rw [eZ _ (by omega)]; exact h4 l hl hl2⟩
  obtain ⟨a1, a2, f, t, a3, a4, a5, a6⟩ := h3 l hl
  exact ⟨by rw [eP _ _ (by omega)]; exact a1, by rw [eZ _ (by omega)]; exact a2, f, t, a3, a4, by rw [eP _ _ (by omega)]; exact a5, by rw [eP _ _ (by omega)]; exact a6⟩
theorem SL_up {h : HP} {nm nm' nl : Nat} (hX : SL h nm nl) (hn : nm ≤ nm') : SL h nm' nl := by
  obtain ⟨h1, h2, h3, h4⟩ := hX
  refine ⟨h1, h2, fun l hl => ?_, h4⟩
  obtain ⟨a1, a2, f, t, a3, a4, a5⟩ := h3 l hl
  exact ⟨a1, a2, f, t, by omega, by omega, a5⟩
theorem SS_cg {h h' : HP} {ns : Nat} (hX : SS h ns) (eZ : ∀ b, (6000 ≤ b ∧ b < 6100) → liv h' b = liv h b) (eP : ∀ b k, b = 4 → vP h' b k = vP h b k) (eI : ∀ b k, (b = 1 ∧ k = 6) → vI h' b k = vI h b k) : SS h' ns := by
  obtain ⟨h1, h2, h3, h4⟩ := hX
  refine ⟨h1, by rw [eI 1 6 (by omega)]; exact h2, fun l hl => ?_, fun l hl hl2 => by rw [eZ _ (by omega)]; exact h4 l hl hl2⟩
  have := h3 l hl
  exact ⟨by rw [eP _ _ (by omega)]; exact this.1, by rw [eZ _ (by omega)]; exact this.2⟩
theorem TW_cg {h h' : HP} (hX : TW h) (eZ : ∀ b, b < 20 → liv h' b = liv h b) (eP : ∀ b k, b = 10 → vP h' b k = vP h b k) : TW h' := by
  unfold TW at *
  simp only [eZ 10 (by decide), eZ 11 (by decide), eZ 12 (by decide), eZ 13 (by decide), eZ 14 (by decide), eZ 15 (by decide), eZ 16 (by decide), eZ 17 (by decide), eZ 18 (by decide), eZ 19 (by decide), eP 10 _ rfl]
  exact hX
theorem SO_cg {h h' : HP} {ne nk : Nat} {fr to : Nat → Nat} {E : Nat → Nat → Prop} (hX : SO h ne nk fr to E) (eZ : ∀ b, b < 20 → liv h' b = liv h b) (eP : ∀ b k, b = 10 → vP h' b k = vP h b k) (eI : ∀ b k, ((b = 10 ∧ (k = 2 ∨ k = 5)) ∨ b = 13 ∨ b = 14 ∨ b = 15) → vI h' b k = vI h b k) : SO h' ne nk fr to E := by
  obtain ⟨h1, h2, h3, h4, h5, h6, h7, h8, h9⟩ := hX
  exact ⟨TW_cg h1 eZ eP, by rw [eI _ _ (by omega)]; exact h2, h3, by rw [eI _ _ (by omega)]; exact h4, h5, fun i hi => by rw [eI _ _ (by omega), eI _ _ (by omega)]; exact h6 i hi, h7, h8, fun e g he hg => by rw [eI _ _ (by omega)]; exact h9 e g he hg⟩
theorem MW_cg {h h' : HP} (hX : MW h) (eZ : ∀ b, (100 ≤ b ∧ b < 160) → liv h' b = liv h b) (eP : ∀ b k, b = 100 → vP h' b k = vP h b k) : MW h' := by
  refine ⟨by rw [eZ _ (by omega)]; exact hX.1, fun f hf => ?_⟩
  have hf2 : f < 52 := by unfold arrF at hf; simp at hf; exact hf.1
  have := hX.2 f hf
  exact ⟨by rw [eZ _ (by omega)]; exact this.1, by rw [eP _ _ rfl]; exact this.2⟩
theorem ML_cg {h h' : HP} {ne : Nat} {E : Nat → Nat → Prop} (hX : ML h ne E) (eZ : ∀ b, (100 ≤ b ∧ b < 160) → liv h' b = liv h b) (eP : ∀ b k, b = 100 → vP h' b k = vP h b k) (eI : ∀ b k, ((b = 100 ∧ k = 35) ∨ b = 140) → vI h' b k = vI h b k) : ML h' ne E := by
  obtain ⟨h1, h2, h3, h4, h5⟩ := hX
  exact ⟨MW_cg h1 eZ eP, by rw [eI _ _ (by omega)]; exact h2, h3, h4, fun a b ha hb => by rw [eI _ _ (by omega)]; exact h5 a b ha hb⟩
theorem CN_cg {h h' : HP} {nm nl ns nk : Nat} (hX : CN1 h nm nl ns nk) (eI : ∀ b k, (b = 100 ∧ (k = 1 ∨ k = 22 ∨ k = 30 ∨ k = 38)) → vI h' b k = vI h b k) : CN1 h' nm nl ns nk := by
  unfold CN1 at *
  rw [eI _ _ (by omega), eI _ _ (by omega), eI _ _ (by omega), eI _ _ (by omega)]; exact hX
theorem NW_cg {n n' : Nat} {h h' : HP} (hX : NW n h) (hn : n ≤ n') (eL : ∀ b k, ((b = 1 ∨ b = 100) ∧ k = 0) → vL h' b k = vL h b k) : NW n' h' := by
  unfold NW at *
  rw [eL 1 0 (by omega), eL 100 0 (by omega)]; exact ⟨hX.1, hX.2.1, by have := hX.2.2; omega⟩
theorem PI_cg {a f : Nat} {h h' : HP} {nm : Nat} (hX : PI a f h nm) (hm : nm ≤ 10) (eI : ∀ b k, (b = a ∨ (1000 ≤ b ∧ b < 1010 ∧ k = f)) → vI h' b k = vI h b k) : PI a f h' nm := fun i hi => by
  rw [eI _ _ (by omega), eI _ _ (by omega)]; exact hX i hi
theorem PL_cg {a f : Nat} {h h' : HP} {nm : Nat} (hX : PL a f h nm) (hm : nm ≤ 10) (eL : ∀ b k, (b = a ∨ (1000 ≤ b ∧ b < 1010 ∧ k = f)) → vL h' b k = vL h b k) : PL a f h' nm := fun i hi => by
  rw [eL _ _ (by omega), eL _ _ (by omega)]; exact hX i hi
theorem PW_cg {a f : Nat} {h h' : HP} {nm : Nat} (hX : PW a f h nm) (hm : nm ≤ 10) (eI : ∀ b k, (1000 ≤ b ∧ b < 1010 ∧ k = f) → vI h' b k = vI h b k) (eL : ∀ b k, b = a → vL h' b k = vL h b k) : PW a f h' nm := fun i hi => by
  rw [eI _ _ (by omega), eL _ _ rfl]; exact hX i hi
theorem OW_cg {h h' : HP} {nm : Nat} (hX : OW h nm) (hm : nm ≤ 10) (eI : ∀ b k, b = 103 → vI h' b k = vI h b k) (eL : ∀ b k, ((109 ≤ b ∧ b ≤ 111) ∨ (2000 ≤ b ∧ b < 2010)) → vL h' b k = vL h b k) : OW h' nm := fun i hi => by
  rw [eI _ _ rfl, eL _ _ (by omega), eL _ _ (by omega), eL _ _ (by omega), eL _ _ (by omega), eL _ _ (by omega), eL _ _ (by omega)]; exact hX i hi
theorem RG_cg {h h' : HP} {nm : Nat} (hX : RG h nm) (eI : ∀ b k, (b = 103 ∨ b = 114) → vI h' b k = vI h b k) (eL : ∀ b k, ((104 ≤ b ∧ b ≤ 108) ∨ (b = 100 ∧ k = 0)) → vL h' b k = vL h b k) : RG h' nm := fun i hi => by
  rw [eI 103 _ (by omega), eI 114 _ (by omega), eL 104 _ (by omega), eL 105 _ (by omega), eL 106 _ (by omega), eL 107 _ (by omega), eL 108 _ (by omega), eL 100 0 (by omega)]; exact hX i hi
theorem mCn_cg {h h' : HP} (eL : ∀ b k, ((106 ≤ b ∧ b ≤ 108) ∨ (b = 100 ∧ k = 0)) → vL h' b k = vL h b k) (i : Nat) : mCn h' i = mCn h i := by
  unfold mCn; rw [eL 106 _ (by omega), eL 107 _ (by omega), eL 108 _ (by omega), eL 100 0 (by omega)]
theorem RB_cg {n n' : Nat} {h h' : HP} {nm : Nat} (hX : RB n h nm) (hn : n ≤ n') (eC : ∀ i, i < nm → (mCn h i).toInt ≤ (mCn h' i).toInt) (eL : ∀ b k, ((109 ≤ b ∧ b ≤ 113) ∨ b = 115 ∨ b = 116) → vL h' b k = vL h b k) : RB n' h' nm := fun i hi => by
  rw [eL 109 _ (by omega), eL 110 _ (by omega), eL 111 _ (by omega), eL 112 _ (by omega), eL 113 _ (by omega), eL 115 _ (by omega), eL 116 _ (by omega)]
  obtain ⟨a1, a2, a3, a4, a5, a6, a7⟩ := hX i hi
  have := eC i hi
  exact ⟨by omega, by omega, inB_up hn a3, inB_up hn a4, inB_up hn a5, inB_up hn a6, inB_up hn a7⟩
theorem RZ_cg {h h' : HP} {nm : Nat} (hX : RZ h nm) (eI : ∀ b k, (nm ≤ k ∧ (b = 114 ∨ b = 117 ∨ b = 118)) → vI h' b k = vI h b k) (eL : ∀ b k, (nm ≤ k ∧ ((111 ≤ b ∧ b ≤ 113) ∨ b = 116)) → vL h' b k = vL h b k) : RZ h' nm := fun i hi hi2 => by
  rw [eI 114 _ (by omega), eI 117 _ (by omega), eI 118 _ (by omega), eL 111 _ (by omega), eL 112 _ (by omega), eL 113 _ (by omega), eL 116 _ (by omega)]; exact hX i hi hi2
theorem hsp_cg {h h' : HP} {r j : Nat} (hb : ∀ b, vP h r j = some b → 4000 ≤ b ∧ b < 4100) (eP : vP h' r j = vP h r j) (eI : ∀ b, (4000 ≤ b ∧ b < 4100) → vI h' b 0 = vI h b 0) : hsp h' r j = hsp h r j := by
  unfold hsp
  rw [eP]
  cases q : vP h r j with
  | none => rfl
  | some b => show (if _ then _ else _) = (if _ then _ else _); rw [eI b (hb b q)]
theorem SM_hb {h : HP} {nm i j : Nat} (hM : SM h nm) (hi : i < nm) (hj : j < 10) : ∀ b, vP h (3000 + i) j = some b → 4000 ≤ b ∧ b < 4100 := fun b hb => by
  have := (hM.2.2.1 i hi).2.2.2.2.2.2.2.1 j b hj hb
  have := hM.1
  omega
theorem HH_cg {n n' : Nat} {h h' : HP} {nm nm' i j : Nat} (hX : HH n h nm i j) (hn : n ≤ n') (hm : nm ≤ nm') (hi : i < 10) (hj : j < 10) (eC : (mCn h i).toInt ≤ (mCn h' i).toInt) (eI : vI h' 119 (10 * i + j) = vI h 119 (10 * i + j)) (eH : hsp h' (3000 + i) j = hsp h (3000 + i) j) (eL : ∀ b k, (((120 ≤ b ∧ b ≤ 122) ∧ k = 10 * i + j) ∨ b = 4000 + (10 * i + j)) → vL h' b k = vL h b k) : HH n' h' nm' i j := by
  obtain ⟨a1, a2, a3, a4, a5, a6, a7, a8⟩ := hX
  unfold HH
  rw [eI, eH, eL 120 _ (by omega), eL 121 _ (by omega), eL 122 _ (by omega), eL _ 1 (by omega), eL _ 2 (by omega), eL _ 3 (by omega)]
  exact ⟨by omega, a2, a3, a4, a5, by omega, inB_up hn a7, inB_up hn a8⟩
theorem HD_cg {n n' : Nat} {h h' : HP} {nm : Nat} (hX : HD n h nm) (hM : SM h nm) (hn : n ≤ n') (eC : ∀ i, i < nm → (mCn h i).toInt ≤ (mCn h' i).toInt) (eP : ∀ b k, (3000 ≤ b ∧ b < 3010) → vP h' b k = vP h b k) (eI : ∀ b k, (b = 119 ∨ (4000 ≤ b ∧ b < 4100 ∧ k = 0)) → vI h' b k = vI h b k) (eL : ∀ b k, ((120 ≤ b ∧ b ≤ 122) ∨ (4000 ≤ b ∧ b < 4100)) → vL h' b k = vL h b k) : HD n' h' nm := fun i j hi hj => by
  have hm := hM.1
  have eH := hsp_cg (SM_hb hM hi hj) (eP (3000 + i) j (by omega)) (fun b hb => eI b 0 (by omega))
  rcases hX i j hi hj with ⟨a1, a2⟩ | a
  · exact Or.inl ⟨by rw [eI _ _ (by omega)]; exact a1, by rw [eH]; exact a2⟩
  · exact Or.inr (HH_cg a hn (Nat.le_refl _) (by omega) hj (eC i hi) (eI _ _ (by omega)) eH (fun b k hb => eL b k (by omega)))
theorem HZ_cg {h h' : HP} {nm : Nat} (hX : HZ h nm) (eI : ∀ b k, b = 119 → vI h' b k = vI h b k) : HZ h' nm := fun i j hi hi2 hj => by
  rw [eI _ _ rfl]; exact hX i j hi hi2 hj
theorem L1_cg {n n' : Nat} {h h' : HP} {nm nm' l f t : Nat} (hX : L1 n h nm l f t) (hn : n ≤ n') (hm : nm ≤ nm') (eC : (mCn h f).toInt ≤ (mCn h' f).toInt) (eP : ∀ b k, b = 5000 + l → vP h' b k = vP h b k) (eI : ∀ b k, ((124 ≤ b ∧ b ≤ 128 ∧ k = l) ∨ b = 5000 + l) → vI h' b k = vI h b k) (eL : ∀ b k, ((127 ≤ b ∧ b ≤ 130 ∧ k = l) ∨ b = 5000 + l) → vL h' b k = vL h b k) : L1 n' h' nm' l f t := by
  obtain ⟨a1, a2, a3, a4, a5, a6, a7, a8, a9⟩ := hX
  unfold L1
  rw [eP _ 0 rfl, eP _ 1 rfl, eI 124 _ (by omega), eI 125 _ (by omega), eI 126 _ (by omega), eI 128 _ (by omega), eI _ 3 (by omega), eI _ 4 (by omega), eL 127 _ (by omega), eL 129 _ (by omega), eL 130 _ (by omega), eL _ 2 (by omega), eL _ 5 (by omega), eL _ 6 (by omega)]
  refine ⟨by omega, by omega, a3, a4, a5, a6, ⟨a7.1, a7.2.1, by have := a7.2.2; omega⟩, a8, ?_⟩
  rcases a9 with z | ⟨z1, z2, z3, z4⟩
  · exact Or.inl z
  · exact Or.inr ⟨z1, z2, inB_up hn z3, inB_up hn z4⟩
theorem LT_cg {n n' : Nat} {h h' : HP} {nm nm' nl : Nat} (hX : LT n h nm nl) (hn : n ≤ n') (hm : nm ≤ nm') (hl : nl ≤ 200) (eC : ∀ i, i < nm → (mCn h i).toInt ≤ (mCn h' i).toInt) (eP : ∀ b k, (5000 ≤ b ∧ b < 5000 + nl) → vP h' b k = vP h b k) (eI : ∀ b k, ((124 ≤ b ∧ b ≤ 128 ∧ k < nl) ∨ (5000 ≤ b ∧ b < 5000 + nl)) → vI h' b k = vI h b k) (eL : ∀ b k, ((127 ≤ b ∧ b ≤ 130 ∧ k < nl) ∨ (5000 ≤ b ∧ b < 5000 + nl)) → vL h' b k = vL h b k) : LT n' h' nm' nl := fun l hl => by
  obtain ⟨f, t, a⟩ := hX l hl
  exact ⟨f, t, L1_cg a hn hm (eC f a.1) (fun b k hb => eP b k (by omega)) (fun b k hb => eI b k (by omega)) (fun b k hb => eL b k (by omega))⟩
theorem S1_cg {n n' : Nat} {h h' : HP} {k : Nat} (hX : S1 n h k) (hn : n ≤ n') (eI : ∀ b q, ((b = 134 ∧ q = k) ∨ (b = 135 ∧ q = k) ∨ b = 6000 + k) → vI h' b q = vI h b q) (eL : ∀ b q, ((b = 132 ∧ q = k) ∨ (b = 133 ∧ q = k) ∨ b = 6000 + k) → vL h' b q = vL h b q) : S1 n' h' k := by
  obtain ⟨a1, a2, a3, a4, a5, a6⟩ := hX
  unfold S1
  rw [eI 134 _ (by omega), eI 135 _ (by omega), eI _ 2 (by omega), eI _ 3 (by omega), eL 132 _ (by omega), eL 133 _ (by omega), eL _ 0 (by omega), eL _ 1 (by omega)]
  exact ⟨a1, a2, a3, a4, inB_up hn a5, inB_up hn a6⟩
theorem RS_cg {n n' : Nat} {h h' : HP} {ns : Nat} (hX : RS n h ns) (hn : n ≤ n') (eI : ∀ b k, (((b = 134 ∨ b = 135) ∧ k < ns) ∨ (6000 ≤ b ∧ b < 6000 + ns)) → vI h' b k = vI h b k) (eL : ∀ b k, (((b = 132 ∨ b = 133) ∧ k < ns) ∨ (6000 ≤ b ∧ b < 6000 + ns)) → vL h' b k = vL h b k) : RS n' h' ns := fun k hk => S1_cg (hX k hk) hn (fun b q hb => eI b q (by omega)) (fun b q hb => eL b q (by omega))
theorem EV_cg {n n' : Nat} {h h' : HP} {ne : Nat} (hX : EV n h ne) (hn : n ≤ n') (eL : ∀ b k, (k < ne ∧ (b = 11 ∨ b = 12 ∨ b = 137 ∨ b = 138)) → vL h' b k = vL h b k) : EV n' h' ne := fun e he => by
  obtain ⟨a1, a2, a3, a4⟩ := hX e he
  rw [eL 11 _ (by omega), eL 12 _ (by omega), eL 137 _ (by omega), eL 138 _ (by omega)]
  exact ⟨a1, a2, inB_up hn a3, inB_up hn a4⟩
theorem EZ_cg {h h' : HP} {ne : Nat} (hX : EZ h ne) (eI : ∀ b k, (b = 15 ∨ b = 140) → vI h' b k = vI h b k) : EZ h' ne := ⟨fun e h1 h2 => by rw [eI _ _ (by omega)]; exact hX.1 e h1 h2, fun a b h1 h2 h3 => by rw [eI _ _ (by omega)]; exact hX.2 a b h1 h2 h3⟩
theorem DS_cg {h h' : HP} {ne : Nat} {E : Nat → Nat → Prop} (hX : DS h ne E) (eI : ∀ b k, ((b = 10 ∧ (k = 11 ∨ k = 13)) ∨ b = 17 ∨ b = 18) → vI h' b k = vI h b k) (eL : ∀ b k, ((b = 10 ∧ k = 12) ∨ b = 11 ∨ b = 12 ∨ b = 16) → vL h' b k = vL h b k) : DS h' ne E := by
  have e1 : vL h' 11 = vL h 11 := by funext k; exact eL _ _ (by omega)
  have e2 : vL h' 12 = vL h 12 := by funext k; exact eL _ _ (by omega)
  have e3 : vL h' 16 = vL h 16 := by funext k; exact eL _ _ (by omega)
  have e4 : vI h' 17 = vI h 17 := by funext k; exact eI _ _ (by omega)
  have e5 : vI h' 18 = vI h 18 := by funext k; exact eI _ _ (by omega)
  unfold DS Dn at *
  rw [e1, e2, e3, e4, e5, eI 10 13 (by omega), eI 10 11 (by omega), eL 10 12 (by omega)]
  exact hX
