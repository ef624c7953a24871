theorem vIs {h : HP} {a k : Nat} {v : Int32} : vI (sI h a k v) a k = v := up2_eq
theorem vLs {h : HP} {a k : Nat} {v : Int64} : vL (sL h a k v) a k = v := up2_eq
theorem vPs {h : HP} {a k : Nat} {v : Option Nat} : vP (sP h a k v) a k = v := up2_eq
theorem vIn {h : HP} {a b k : Nat} {v : Int32} (hb : b ≠ a) : vI (sI h a k v) b = vI h b := up2_ne hb
theorem vLn {h : HP} {a b k : Nat} {v : Int64} (hb : b ≠ a) : vL (sL h a k v) b = vL h b := up2_ne hb
theorem vPn {h : HP} {a b k : Nat} {v : Option Nat} (hb : b ≠ a) : vP (sP h a k v) b = vP h b := up2_ne hb
theorem vIj {h : HP} {a b k j : Nat} {v : Int32} (hj : j ≠ k) : vI (sI h a k v) b j = vI h b j := up2_j hj
theorem vLj {h : HP} {a b k j : Nat} {v : Int64} (hj : j ≠ k) : vL (sL h a k v) b j = vL h b j := up2_j hj
theorem vPj {h : HP} {a b k j : Nat} {v : Option Nat} (hj : j ≠ k) : vP (sP h a k v) b j = vP h b j := up2_j hj
/-! the council's cells: what stands where -/
def SR (h : HP) : Prop := liv h 1 = true ∧ liv h 2 = true ∧ liv h 3 = true ∧ liv h 4 = true ∧ liv h 10 = true ∧ vP h 1 1 = some 2 ∧ vP h 1 3 = some 3 ∧ vP h 1 5 = some 4 ∧ vP h 1 7 = some 5 ∧ vP h 1 8 = some 10 ∧ GW h
def MO (h : HP) (i : Nat) : Prop := liv h (1000 + i) = true ∧ liv h (2000 + i) = true ∧ liv h (3000 + i) = true ∧ vP h (1000 + i) 8 = some (2000 + i) ∧ vP h (1000 + i) 9 = some (3000 + i) ∧ vI h (1000 + i) 0 = nI i ∧ (∀ j b, j < 10 → vP h (3000 + i) j = some b → b = 4000 + (10 * i + j) ∧ liv h b = true) ∧ (∀ j, j < 10 → vP h (3000 + i) j = none → liv h (4000 + (10 * i + j)) = false)
def MF (h : HP) (i : Nat) : Prop := liv h (1000 + i) = false ∧ liv h (2000 + i) = false ∧ liv h (3000 + i) = false ∧ ∀ j, j < 10 → liv h (4000 + (10 * i + j)) = false
def SM (h : HP) (nm : Nat) : Prop := nm ≤ 10 ∧ vI h 1 2 = nI nm ∧ (∀ i, i < nm → vP h 2 i = some (1000 + i) ∧ MO h i) ∧ ∀ i, nm ≤ i → i < 10 → MF h i
def LO (h : HP) (nm l : Nat) : Prop := vP h 3 l = some (5000 + l) ∧ liv h (5000 + l) = true ∧ ∃ f t, f < nm ∧ t < nm ∧ vP h (5000 + l) 0 = some (1000 + f) ∧ vP h (5000 + l) 1 = some (1000 + t)
def SL (h : HP) (nm nl : Nat) : Prop := nl < 200 ∧ vI h 1 4 = nI nl ∧ (∀ l, l < nl → LO h nm l) ∧ ∀ l, nl ≤ l → l < 200 → liv h (5000 + l) = false
def SS (h : HP) (ns : Nat) : Prop := ns < 100 ∧ vI h 1 6 = nI ns ∧ (∀ k, k < ns → vP h 4 k = some (6000 + k) ∧ liv h (6000 + k) = true) ∧ ∀ k, ns ≤ k → k < 100 → liv h (6000 + k) = false
def inR (x : Int32) (n : Nat) : Prop := 0 ≤ x.toInt ∧ x.toInt < n
theorem inR_nI {i n : Nat} (h : i < n) (hn : n ≤ 100000) : inR (nI i) n := by unfold inR; rw [nIt (by omega)]; omega
theorem inR_of {x : Int32} {n : Nat} (h : inR x n) (hn : n ≤ 100000) : ∃ i, i < n ∧ x = nI i := ofm h.1 h.2 hn
set_option maxRecDepth 100000 in
set_option maxHeartbeats 4000000 in
theorem ct_findMember0 {g : GG} {h : HP} {Post : Option Value → HP → Prop} (n : Nat) (x : Int32) (hr : SR h) (hc : vI h 1 2 = nI n) (hn : n ≤ 1000) (hx : ¬ inR x n) (hp : Post (some .null) h) : CT g mX6_findMember [.ref 1, .int x] h Post := by
  show WP g mX6_findMember 0 [(0, .ref 1), (1, .int x)] [] h 0 0 Post
  refine wp_iload_n dX6_findMember_0 rfl 1 rfl ?_
  refine wi_if_lt (tgt := 12) (Int32.toInt x) rfl dX6_findMember_1 (by decide) (fun c_1 => ?_) (fun c_1 => ?_)
  · refine wp_null dX6_findMember_12 ?_
    refine wp_goto (tgt := 22) dX6_findMember_13 (by decide) ?_
    refine wp_aretN dX6_findMember_22 rfl (by decide) (by decide) ?_
    exact hp
  · refine wp_iload_n dX6_findMember_4 rfl 1 rfl ?_
    refine wp_aload_n dX6_findMember_5 rfl 0 rfl ?_
    refine wv_getI (nI n) dX6_findMember_6 flX6_19 rfl rfl hr.1 hc ?_
    refine wi_icmp_lt (tgt := 16) (Int32.toInt x) ((n : Nat)) rfl (nIt (by omega)) dX6_findMember_9 (by decide) (fun c_2 => ?_) (fun c_2 => ?_)
    · refine wp_aload_n dX6_findMember_16 rfl 0 rfl ?_
      refine wp_getP (b := 2) dX6_findMember_17 flX6_15 rfl rfl hr.1 hr.2.2.2.2.2.1 ?_
      refine wp_iload_n dX6_findMember_20 rfl 1 rfl ?_
      exact absurd (show inR x n from ⟨by omega, by omega⟩) hx
    · refine wp_null dX6_findMember_12 ?_
      refine wp_goto (tgt := 22) dX6_findMember_13 (by decide) ?_
      refine wp_aretN dX6_findMember_22 rfl (by decide) (by decide) ?_
      exact hp
set_option maxRecDepth 100000 in
set_option maxHeartbeats 4000000 in
theorem ct_findMember {g : GG} {h : HP} {Post : Option Value → HP → Prop} (n i : Nat) (hr : SR h) (hc : vI h 1 2 = nI n) (hn : n ≤ 10) (hi : i < n) (he : vP h 2 i = some (1000 + i)) (hp : Post (some (.ref (1000 + i))) h) : CT g mX6_findMember [.ref 1, .int (nI i)] h Post := by
  show WP g mX6_findMember 0 [(0, .ref 1), (1, .int (nI i))] [] h 0 0 Post
  refine wp_iload_n dX6_findMember_0 rfl 1 rfl ?_
  refine wp_if_lt (tgt := 12) dX6_findMember_1 (by decide) (fun c_1 => absurd c_1 (nI_pos (by omega))) (fun _ => ?_)
  refine wp_iload_n dX6_findMember_4 rfl 1 rfl ?_
  refine wp_aload_n dX6_findMember_5 rfl 0 rfl ?_
  refine wv_getI (nI n) dX6_findMember_6 flX6_19 rfl rfl hr.1 hc ?_
  refine wp_icmp_lt (tgt := 16) dX6_findMember_9 (by decide) (fun _ => ?_) (fun c_2 => absurd (nI_lt hi (by omega)) c_2)
  refine wp_aload_n dX6_findMember_16 rfl 0 rfl ?_
  refine wp_getP (b := 2) dX6_findMember_17 flX6_15 rfl rfl hr.1 hr.2.2.2.2.2.1 ?_
  refine wp_iload_n dX6_findMember_20 rfl 1 rfl ?_
  refine wv_aald i (1000 + i) dX6_findMember_21 rfl (by decide) (by decide) hr.2.1 rfl (by show i < 10; omega) he ?_
  refine wp_aret dX6_findMember_22 rfl (by decide) (by decide) ?_
  exact hp
set_option maxRecDepth 100000 in
set_option maxHeartbeats 4000000 in
theorem ct_findLetter0 {g : GG} {h : HP} {Post : Option Value → HP → Prop} (n : Nat) (x : Int32) (hr : SR h) (hc : vI h 1 4 = nI n) (hn : n ≤ 1000) (hx : ¬ inR x n) (hp : Post (some .null) h) : CT g mX6_findLetter [.ref 1, .int x] h Post := by
  show WP g mX6_findLetter 0 [(0, .ref 1), (1, .int x)] [] h 0 0 Post
  refine wp_iload_n dX6_findLetter_0 rfl 1 rfl ?_
  refine wi_if_lt (tgt := 12) (Int32.toInt x) rfl dX6_findLetter_1 (by decide) (fun c_1 => ?_) (fun c_1 => ?_)
  · refine wp_null dX6_findLetter_12 ?_
    refine wp_goto (tgt := 22) dX6_findLetter_13 (by decide) ?_
    refine wp_aretN dX6_findLetter_22 rfl (by decide) (by decide) ?_
    exact hp
  · refine wp_iload_n dX6_findLetter_4 rfl 1 rfl ?_
    refine wp_aload_n dX6_findLetter_5 rfl 0 rfl ?_
    refine wv_getI (nI n) dX6_findLetter_6 flX6_29 rfl rfl hr.1 hc ?_
    refine wi_icmp_lt (tgt := 16) (Int32.toInt x) ((n : Nat)) rfl (nIt (by omega)) dX6_findLetter_9 (by decide) (fun c_2 => ?_) (fun c_2 => ?_)
    · refine wp_aload_n dX6_findLetter_16 rfl 0 rfl ?_
      refine wp_getP (b := 3) dX6_findLetter_17 flX6_25 rfl rfl hr.1 hr.2.2.2.2.2.2.1 ?_
      refine wp_iload_n dX6_findLetter_20 rfl 1 rfl ?_
      exact absurd (show inR x n from ⟨by omega, by omega⟩) hx
    · refine wp_null dX6_findLetter_12 ?_
      refine wp_goto (tgt := 22) dX6_findLetter_13 (by decide) ?_
      refine wp_aretN dX6_findLetter_22 rfl (by decide) (by decide) ?_
      exact hp
set_option maxRecDepth 100000 in
set_option maxHeartbeats 4000000 in
theorem ct_findLetter {g : GG} {h : HP} {Post : Option Value → HP → Prop} (n i : Nat) (hr : SR h) (hc : vI h 1 4 = nI n) (hn : n ≤ 200) (hi : i < n) (he : vP h 3 i = some (5000 + i)) (hp : Post (some (.ref (5000 + i))) h) : CT g mX6_findLetter [.ref 1, .int (nI i)] h Post := by
  show WP g mX6_findLetter 0 [(0, .ref 1), (1, .int (nI i))] [] h 0 0 Post
  refine wp_iload_n dX6_findLetter_0 rfl 1 rfl ?_
  refine wp_if_lt (tgt := 12) dX6_findLetter_1 (by decide) (fun c_1 => absurd c_1 (nI_pos (by omega))) (fun _ => ?_)
  refine wp_iload_n dX6_findLetter_4 rfl 1 rfl ?_
  refine wp_aload_n dX6_findLetter_5 rfl 0 rfl ?_
  refine wv_getI (nI n) dX6_findLetter_6 flX6_29 rfl rfl hr.1 hc ?_
  refine wp_icmp_lt (tgt := 16) dX6_findLetter_9 (by decide) (fun _ => ?_) (fun c_2 => absurd (nI_lt hi (by omega)) c_2)
  refine wp_aload_n dX6_findLetter_16 rfl 0 rfl ?_
  refine wp_getP (b := 3) dX6_findLetter_17 flX6_25 rfl rfl hr.1 hr.2.2.2.2.2.2.1 ?_
  refine wp_iload_n dX6_findLetter_20 rfl 1 rfl ?_
  refine wv_aald i (5000 + i) dX6_findLetter_21 rfl (by decide) (by decide) hr.2.2.1 rfl (by show i < 200; omega) he ?_
  refine wp_aret dX6_findLetter_22 rfl (by decide) (by decide) ?_
  exact hp
set_option maxRecDepth 100000 in
set_option maxHeartbeats 4000000 in
theorem ct_findStamp0 {g : GG} {h : HP} {Post : Option Value → HP → Prop} (n : Nat) (x : Int32) (hr : SR h) (hc : vI h 1 6 = nI n) (hn : n ≤ 1000) (hx : ¬ inR x n) (hp : Post (some .null) h) : CT g mX6_findStamp [.ref 1, .int x] h Post := by
  show WP g mX6_findStamp 0 [(0, .ref 1), (1, .int x)] [] h 0 0 Post
  refine wp_iload_n dX6_findStamp_0 rfl 1 rfl ?_
  refine wi_if_lt (tgt := 12) (Int32.toInt x) rfl dX6_findStamp_1 (by decide) (fun c_1 => ?_) (fun c_1 => ?_)
  · refine wp_null dX6_findStamp_12 ?_
    refine wp_goto (tgt := 22) dX6_findStamp_13 (by decide) ?_
    refine wp_aretN dX6_findStamp_22 rfl (by decide) (by decide) ?_
    exact hp
  · refine wp_iload_n dX6_findStamp_4 rfl 1 rfl ?_
    refine wp_aload_n dX6_findStamp_5 rfl 0 rfl ?_
    refine wv_getI (nI n) dX6_findStamp_6 flX6_38 rfl rfl hr.1 hc ?_
    refine wi_icmp_lt (tgt := 16) (Int32.toInt x) ((n : Nat)) rfl (nIt (by omega)) dX6_findStamp_9 (by decide) (fun c_2 => ?_) (fun c_2 => ?_)
    · refine wp_aload_n dX6_findStamp_16 rfl 0 rfl ?_
      refine wp_getP (b := 4) dX6_findStamp_17 flX6_34 rfl rfl hr.1 hr.2.2.2.2.2.2.2.1 ?_
      refine wp_iload_n dX6_findStamp_20 rfl 1 rfl ?_
      exact absurd (show inR x n from ⟨by omega, by omega⟩) hx
    · refine wp_null dX6_findStamp_12 ?_
      refine wp_goto (tgt := 22) dX6_findStamp_13 (by decide) ?_
      refine wp_aretN dX6_findStamp_22 rfl (by decide) (by decide) ?_
      exact hp
set_option maxRecDepth 100000 in
set_option maxHeartbeats 4000000 in
theorem ct_findStamp {g : GG} {h : HP} {Post : Option Value → HP → Prop} (n i : Nat) (hr : SR h) (hc : vI h 1 6 = nI n) (hn : n ≤ 100) (hi : i < n) (he : vP h 4 i = some (6000 + i)) (hp : Post (some (.ref (6000 + i))) h) : CT g mX6_findStamp [.ref 1, .int (nI i)] h Post := by
  show WP g mX6_findStamp 0 [(0, .ref 1), (1, .int (nI i))] [] h 0 0 Post
  refine wp_iload_n dX6_findStamp_0 rfl 1 rfl ?_
  refine wp_if_lt (tgt := 12) dX6_findStamp_1 (by decide) (fun c_1 => absurd c_1 (nI_pos (by omega))) (fun _ => ?_)
  refine wp_iload_n dX6_findStamp_4 rfl 1 rfl ?_
  refine wp_aload_n dX6_findStamp_5 rfl 0 rfl ?_
  refine wv_getI (nI n) dX6_findStamp_6 flX6_38 rfl rfl hr.1 hc ?_
  refine wp_icmp_lt (tgt := 16) dX6_findStamp_9 (by decide) (fun _ => ?_) (fun c_2 => absurd (nI_lt hi (by omega)) c_2)
  refine wp_aload_n dX6_findStamp_16 rfl 0 rfl ?_
  refine wp_getP (b := 4) dX6_findStamp_17 flX6_34 rfl rfl hr.1 hr.2.2.2.2.2.2.2.1 ?_
  refine wp_iload_n dX6_findStamp_20 rfl 1 rfl ?_
  refine wv_aald i (6000 + i) dX6_findStamp_21 rfl (by decide) (by decide) hr.2.2.2.1 rfl (by show i < 100; omega) he ?_
  refine wp_aret dX6_findStamp_22 rfl (by decide) (by decide) ?_
  exact hp
set_option maxRecDepth 100000 in
set_option maxHeartbeats 4000000 in
theorem ct_findUW0 {g : GG} {h : HP} {Post : Option Value → HP → Prop} (n : Nat) (x : Int32) (hr : SR h) (hc : vI h 1 4 = nI n) (hn : n ≤ 200) (hx : ¬ inR x n) (hp : Post (some .null) h) : CT g mX6_findUnderWay [.ref 1, .int x] h Post := by
  show WP g mX6_findUnderWay 0 [(0, .ref 1), (1, .int x)] [] h 0 0 Post
  refine wp_aload_n dX6_findUnderWay_0 rfl 0 rfl ?_
  refine wp_iload_n dX6_findUnderWay_1 rfl 1 rfl ?_
  refine wp_callV mX6_findLetter 1 [.int x] [] (c := 6) dX6_findUnderWay_2 iX6_findLetter (fun _ => trivial) mlX6_177 imX6_findLetter seX6_findLetter (by decide) rfl rfl ⟨by decide, by decide⟩ rfl rfl (Nat.le_of_ble_eq_true rfl) (Nat.le_of_ble_eq_true rfl) (by decide) (by decide) ?_
  refine ct_findLetter0 n x hr hc (by omega) hx ?_
  show WP g mX6_findUnderWay 5 [(0, .ref 1), (1, .int x)] [.null] _ 0 0 _
  refine wp_astore_nN (lv' := [(2, .null), (0, .ref 1), (1, .int x)]) dX6_findUnderWay_5 rfl (by decide) rfl ?_
  refine wp_aload_nN dX6_findUnderWay_6 rfl 0 rfl ?_
  refine wp_ifnullN (tgt := 17) dX6_findUnderWay_7 (by decide) ?_
  refine wp_null dX6_findUnderWay_17 ?_
  refine wp_goto (tgt := 22) dX6_findUnderWay_18 (by decide) ?_
  refine wp_aretN dX6_findUnderWay_22 rfl (by decide) (by decide) ?_
  exact hp
set_option maxRecDepth 100000 in
set_option maxHeartbeats 4000000 in
theorem ct_findUW {g : GG} {h : HP} {Post : Option Value → HP → Prop} (n l : Nat) (hr : SR h) (hc : vI h 1 4 = nI n) (hn : n ≤ 200) (hi : l < n) (he : vP h 3 l = some (5000 + l)) (hl : liv h (5000 + l) = true) (hy : uw h (5000 + l) → Post (some (.ref (5000 + l))) h) (hno : ¬ uw h (5000 + l) → Post (some .null) h) : CT g mX6_findUnderWay [.ref 1, .int (nI l)] h Post := by
  show WP g mX6_findUnderWay 0 [(0, .ref 1), (1, .int (nI l))] [] h 0 0 Post
  refine wp_aload_n dX6_findUnderWay_0 rfl 0 rfl ?_
  refine wp_iload_n dX6_findUnderWay_1 rfl 1 rfl ?_
  refine wp_callV mX6_findLetter 1 [.int (nI l)] [] (c := 6) dX6_findUnderWay_2 iX6_findLetter (fun _ => trivial) mlX6_177 imX6_findLetter seX6_findLetter (by decide) rfl rfl ⟨by decide, by decide⟩ rfl rfl (Nat.le_of_ble_eq_true rfl) (Nat.le_of_ble_eq_true rfl) (by decide) (by decide) ?_
  refine ct_findLetter n l hr hc hn hi he ?_
  show WP g mX6_findUnderWay 5 [(0, .ref 1), (1, .int (nI l))] [.ref (5000 + l)] _ 0 0 _
  refine wp_astore_n (lv' := [(2, .ref (5000 + l)), (0, .ref 1), (1, .int (nI l))]) dX6_findUnderWay_5 rfl (by decide) rfl ?_
  refine wp_aload_n dX6_findUnderWay_6 rfl 0 rfl ?_
  refine wp_ifnull dX6_findUnderWay_7 ?_
  refine wp_aload_n dX6_findUnderWay_10 rfl 0 rfl ?_
  refine wp_callV mX1_isUnderWay (5000 + l) [] [] (c := 1) dX6_findUnderWay_11 iX1_isUnderWay (fun _ => trivial) mlX6_318 imX1_isUnderWay seX1_isUnderWay (by decide) rfl (kd_let (by omega)) ⟨by decide, by decide⟩ rfl rfl (Nat.le_of_ble_eq_true rfl) (Nat.le_of_ble_eq_true rfl) (by decide) (by decide) ?_
  refine ct_isUnderWay (5000 + l) (kd_let (by omega)) hl (fun hu => ?_) (fun hu => ?_)
  · show WP g mX6_findUnderWay 14 [(2, .ref (5000 + l)), (0, .ref 1), (1, .int (nI l))] [.int 1] _ 0 0 _
    refine wp_if_ne (tgt := 21) dX6_findUnderWay_14 (by decide) (fun _ => ?_) (fun c_1 => absurd c_1 (by decide))
    refine wp_aload_n dX6_findUnderWay_21 rfl 0 rfl ?_
    refine wp_aret dX6_findUnderWay_22 rfl (by decide) (by decide) ?_
    exact hy hu
  · show WP g mX6_findUnderWay 14 [(2, .ref (5000 + l)), (0, .ref 1), (1, .int (nI l))] [.int 0] _ 0 0 _
    refine wp_if_ne (tgt := 21) dX6_findUnderWay_14 (by decide) (fun c_2 => absurd (by decide) c_2) (fun _ => ?_)
    refine wp_null dX6_findUnderWay_17 ?_
    refine wp_goto (tgt := 22) dX6_findUnderWay_18 (by decide) ?_
    refine wp_aretN dX6_findUnderWay_22 rfl (by decide) (by decide) ?_
    exact hno hu
def alH (h : HP) (n b : Nat) : HP := sI (sP h 3 n (some b)) 1 4 (nI (n + 1))
set_option maxRecDepth 100000 in
set_option maxHeartbeats 4000000 in
theorem ct_addLetter {g : GG} {h : HP} {Post : Option Value → HP → Prop} (n b : Nat) (hr : SR h) (hc : vI h 1 4 = nI n) (hn : n < 200) (hkb : kd b = 1) (hp : Post (some (.long (Int32.toInt64 (nI n)))) (alH h n b)) : CT g mX6_addLetter [.ref 1, .ref b] h Post := by
  show WP g mX6_addLetter 0 [(0, .ref 1), (1, .ref b)] [] h 0 0 Post
  refine wp_aload_n dX6_addLetter_0 rfl 0 rfl ?_
  refine wv_getI (nI n) dX6_addLetter_1 flX6_29 rfl rfl hr.1 hc ?_
  refine wp_sipush (v := 200) dX6_addLetter_4 (by decide) ?_
  refine wp_icmp_lt (tgt := 14) dX6_addLetter_7 (by decide) (fun _ => ?_) (fun c_1 => absurd (nI_lt hn (by omega)) c_1)
  refine wp_aload_n dX6_addLetter_14 rfl 0 rfl ?_
  refine wp_getP (b := 3) dX6_addLetter_15 flX6_25 rfl rfl hr.1 hr.2.2.2.2.2.2.1 ?_
  refine wp_aload_n dX6_addLetter_18 rfl 0 rfl ?_
  refine wv_getI (nI n) dX6_addLetter_19 flX6_29 rfl rfl hr.1 hc ?_
  refine wp_aload_n dX6_addLetter_22 rfl 1 rfl ?_
  refine wv_aast n dX6_addLetter_23 rfl (by decide) (by decide) hr.2.2.1 rfl (by show n < 200; omega) hkb ?_
  refine wp_aload_n dX6_addLetter_24 rfl 0 rfl ?_
  refine wp_dup dX6_addLetter_25 rfl ?_
  refine wv_getI (nI n) dX6_addLetter_26 flX6_29 rfl rfl hr.1 hc ?_
  refine wp_iconst (v := 1) dX6_addLetter_29 (by decide) ?_
  refine wv_iadd (nI (n + 1)) (wN_add rfl rfl) dX6_addLetter_30 ?_
  refine wp_pc (pc' := 31) rfl ?_
  refine wp_putI dX6_addLetter_31 flX6_29 (Or.inl rfl) rfl rfl rfl rfl hr.1 ?_
  refine wp_aload_n dX6_addLetter_34 rfl 0 rfl ?_
  refine wv_getI (nI (n + 1)) dX6_addLetter_35 flX6_29 rfl rfl hr.1 vIs ?_
  refine wp_iconst (v := 1) dX6_addLetter_38 (by decide) ?_
  refine wv_isub (nI n) (nI_pred _) dX6_addLetter_39 ?_
  refine wp_i2l dX6_addLetter_40 ?_
  refine wp_lret dX6_addLetter_41 rfl (by decide) (by decide) ?_
  exact hp
noncomputable def cuN (h : HP) : Nat → Nat
  | 0 => 0
  | n + 1 => cuN h n + (@ite Nat (uw h (5000 + n)) (Classical.propDecidable _) 1 0)
theorem cuN_yes {h : HP} {n : Nat} (hu : uw h (5000 + n)) : cuN h (n + 1) = cuN h n + 1 := by show _ + (@ite Nat _ (Classical.propDecidable _) 1 0) = _; rw [if_pos hu]
theorem cuN_no {h : HP} {n : Nat} (hu : ¬ uw h (5000 + n)) : cuN h (n + 1) = cuN h n := by show _ + (@ite Nat _ (Classical.propDecidable _) 1 0) = _; rw [if_neg hu]; rfl
set_option maxRecDepth 100000 in
set_option maxHeartbeats 4000000 in
theorem lp_howMany {g : GG} {h : HP} {Post : Option Value → HP → Prop} (s : Nat) (hs : s ≤ 200) (hr : SR h) (hc : vI h 1 4 = nI s) (hlt : ∀ l, l < s → vP h 3 l = some (5000 + l) ∧ liv h (5000 + l) = true) (hp : Post (some (.int (nI (cuN h s)))) h) : ∀ (k n : Nat), n + k = s → WP g mX6_howManyUnderWay 4 [(0, .ref 1), (1, .int (nI (cuN h n))), (2, .int (nI n))] [] h 0 0 Post := by
  intro k
  induction k with
  | zero =>
    intro n e0
    refine wp_iload_n dX6_howManyUnderWay_4 rfl 2 rfl ?_
    refine wp_aload_n dX6_howManyUnderWay_5 rfl 0 rfl ?_
    refine wv_getI (nI s) dX6_howManyUnderWay_6 flX6_29 rfl rfl hr.1 hc ?_
    refine wp_icmp_ge (tgt := 29) dX6_howManyUnderWay_9 (by decide) (fun _ => ?_) (fun c_1 => absurd (nI_le (by omega) (by omega)) c_1)
    refine wp_iload_n dX6_howManyUnderWay_29 rfl 1 rfl ?_
    refine wp_iret dX6_howManyUnderWay_30 rfl (by decide) (by decide) ?_
    rw [show n = s by omega]
    exact hp
  | succ k ih =>
    intro n e0
    refine wp_iload_n dX6_howManyUnderWay_4 rfl 2 rfl ?_
    refine wp_aload_n dX6_howManyUnderWay_5 rfl 0 rfl ?_
    refine wv_getI (nI s) dX6_howManyUnderWay_6 flX6_29 rfl rfl hr.1 hc ?_
    refine wp_icmp_ge (tgt := 29) dX6_howManyUnderWay_9 (by decide) (fun c_1 => absurd c_1 (nI_ge (by omega) (by omega))) (fun _ => ?_)
    refine wp_aload_n dX6_howManyUnderWay_12 rfl 0 rfl ?_
    refine wp_iload_n dX6_howManyUnderWay_13 rfl 2 rfl ?_
    refine wp_callV mX6_findUnderWay 1 [.int (nI n)] [] (c := 6) dX6_howManyUnderWay_14 iX6_findUnderWay (fun _ => trivial) mlX6_142 imX6_findUnderWay seX6_findUnderWay (by decide) rfl rfl ⟨by decide, by decide⟩ rfl rfl (Nat.le_of_ble_eq_true rfl) (Nat.le_of_ble_eq_true rfl) (by decide) (by decide) ?_
    refine ct_findUW s n hr hc hs (by omega) (hlt n (by omega)).1 (hlt n (by omega)).2 (fun hu => ?_) (fun hu => ?_)
    · show WP g mX6_howManyUnderWay 17 [(0, .ref 1), (1, .int (nI (cuN h n))), (2, .int (nI n))] [.ref (5000 + n)] _ 0 0 _
      refine wp_ifnull dX6_howManyUnderWay_17 ?_
      refine wp_iinc (q := 1) (x := nI (cuN h n)) (v := nI (cuN h n + 1)) (lv' := [(1, .int (nI (cuN h n + 1))), (0, .ref 1), (2, .int (nI n))]) dX6_howManyUnderWay_20 rfl (nI_1 _) (by decide) rfl ?_
      refine wp_iinc (q := 2) (x := nI n) (v := nI (n + 1)) (lv' := [(2, .int (nI (n + 1))), (1, .int (nI (cuN h n + 1))), (0, .ref 1)]) dX6_howManyUnderWay_23 rfl (nI_1 _) (by decide) rfl ?_
      refine wp_goto (tgt := 4) dX6_howManyUnderWay_26 (by decide) ?_
      refine wp_sub [2, 1, 0] rfl ?_
      have q := ih (n + 1) (by omega)
      rw [cuN_yes hu] at q
      exact q
    · show WP g mX6_howManyUnderWay 17 [(0, .ref 1), (1, .int (nI (cuN h n))), (2, .int (nI n))] [.null] _ 0 0 _
      refine wp_ifnullN (tgt := 23) dX6_howManyUnderWay_17 (by decide) ?_
      refine wp_iinc (q := 2) (x := nI n) (v := nI (n + 1)) (lv' := [(2, .int (nI (n + 1))), (0, .ref 1), (1, .int (nI (cuN h n)))]) dX6_howManyUnderWay_23 rfl (nI_1 _) (by decide) rfl ?_
      refine wp_goto (tgt := 4) dX6_howManyUnderWay_26 (by decide) ?_
      refine wp_sub [1, 2, 0] rfl ?_
      have q := ih (n + 1) (by omega)
      rw [cuN_no hu] at q
      exact q
set_option maxRecDepth 100000 in
set_option maxHeartbeats 4000000 in
theorem ct_howMany {g : GG} {h : HP} {Post : Option Value → HP → Prop} (s : Nat) (hs : s ≤ 200) (hr : SR h) (hc : vI h 1 4 = nI s) (hlt : ∀ l, l < s → vP h 3 l = some (5000 + l) ∧ liv h (5000 + l) = true) (hp : Post (some (.int (nI (cuN h s)))) h) : CT g mX6_howManyUnderWay [.ref 1] h Post := by
  show WP g mX6_howManyUnderWay 0 [(0, .ref 1)] [] h 0 0 Post
  refine wp_iconst (v := 0) dX6_howManyUnderWay_0 (by decide) ?_
  refine wp_istore_n (lv' := [(1, .int 0), (0, .ref 1)]) dX6_howManyUnderWay_1 rfl (by decide) rfl ?_
  refine wp_iconst (v := 0) dX6_howManyUnderWay_2 (by decide) ?_
  refine wp_istore_n (lv' := [(2, .int 0), (1, .int 0), (0, .ref 1)]) dX6_howManyUnderWay_3 rfl (by decide) rfl ?_
  refine wp_sub [2, 1, 0] rfl ?_
  exact lp_howMany s hs hr hc hlt hp s 0 (by omega)
def ltS (h : HP) : Nat → Int64
  | 0 => NOv
  | n + 1 => mx64 (ltS h n) (vL h (6000 + n) 1)
set_option maxRecDepth 100000 in
set_option maxHeartbeats 4000000 in
theorem lp_latest {g : GG} {h : HP} {Post : Option Value → HP → Prop} (s : Nat) (hs : s ≤ 100) (hr : SR h) (hc : vI h 1 6 = nI s) (hst : ∀ k, k < s → vP h 4 k = some (6000 + k) ∧ liv h (6000 + k) = true) (hp : Post (some (.long (ltS h s))) h) : ∀ (k n : Nat), n + k = s → WP g mX6_latestStamped 6 [(0, .ref 1), (1, .long (ltS h n)), (3, .int (nI n))] [] h 0 0 Post := by
  intro k
  induction k with
  | zero =>
    intro n e0
    refine wp_iload_n dX6_latestStamped_6 rfl 2 rfl ?_
    refine wp_aload_n dX6_latestStamped_7 rfl 0 rfl ?_
    refine wv_getI (nI s) dX6_latestStamped_8 flX6_38 rfl rfl hr.1 hc ?_
    refine wp_icmp_ge (tgt := 42) dX6_latestStamped_11 (by decide) (fun _ => ?_) (fun c_1 => absurd (nI_le (by omega) (by omega)) c_1)
    refine wp_lload_n dX6_latestStamped_42 rfl 1 rfl ?_
    refine wp_lret dX6_latestStamped_43 rfl (by decide) (by decide) ?_
    rw [show n = s by omega]
    exact hp
  | succ k ih =>
    intro n e0
    refine wp_iload_n dX6_latestStamped_6 rfl 2 rfl ?_
    refine wp_aload_n dX6_latestStamped_7 rfl 0 rfl ?_
    refine wv_getI (nI s) dX6_latestStamped_8 flX6_38 rfl rfl hr.1 hc ?_
    refine wp_icmp_ge (tgt := 42) dX6_latestStamped_11 (by decide) (fun c_1 => absurd c_1 (nI_ge (by omega) (by omega))) (fun _ => ?_)
    refine wp_aload_n dX6_latestStamped_14 rfl 0 rfl ?_
    refine wp_iload_n dX6_latestStamped_15 rfl 2 rfl ?_
    refine wp_callV mX6_findStamp 1 [.int (nI n)] [] (c := 6) dX6_latestStamped_16 iX6_findStamp (fun _ => trivial) mlX6_253 imX6_findStamp seX6_findStamp (by decide) rfl rfl ⟨by decide, by decide⟩ rfl rfl (Nat.le_of_ble_eq_true rfl) (Nat.le_of_ble_eq_true rfl) (by decide) (by decide) ?_
    refine ct_findStamp s n hr hc hs (by omega) (hst n (by omega)).1 ?_
    show WP g mX6_latestStamped 19 [(0, .ref 1), (1, .long (ltS h n)), (3, .int (nI n))] [.ref (6000 + n)] _ 0 0 _
    refine wp_astore (lv' := [(4, .ref (6000 + n)), (0, .ref 1), (1, .long (ltS h n)), (3, .int (nI n))]) dX6_latestStamped_19 (by decide) rfl ?_
    refine wp_aload dX6_latestStamped_21 0 rfl ?_
    refine wp_ifnull dX6_latestStamped_23 ?_
    refine wp_lload_n dX6_latestStamped_26 rfl 2 rfl ?_
    refine wp_aload dX6_latestStamped_27 0 rfl ?_
    refine wp_getL dX6_latestStamped_29 flX6_258 rfl (kd_stp (by omega)) (hst n (by omega)).2 ?_
    refine wp_callS mJ9_max_f86c9 [.long (ltS h n), .long (vL h (6000 + n) 1)] [] dX6_latestStamped_32 iJ9_max_f86c9 (fun _ => trivial) mlX6_244 stJ9_max_f86c9 ⟨by decide, by decide⟩ rfl rfl (Nat.le_of_ble_eq_true rfl) (Nat.le_of_ble_eq_true rfl) (by decide) (by decide) ?_
    refine ct_max (ltS h n) (vL h (6000 + n) 1)  ?_
    show WP g mX6_latestStamped 35 [(4, .ref (6000 + n)), (0, .ref 1), (1, .long (ltS h n)), (3, .int (nI n))] [.long (mx64 (ltS h n) (vL h (6000 + n) 1))] _ 0 0 _
    refine wp_lstore_n (lv' := [(1, .long (mx64 (ltS h n) (vL h (6000 + n) 1))), (4, .ref (6000 + n)), (0, .ref 1), (3, .int (nI n))]) dX6_latestStamped_35 rfl (by decide) rfl ?_
    refine wp_pc (pc' := 36) rfl ?_
    refine wp_iinc (q := 3) (x := nI n) (v := nI (n + 1)) (lv' := [(3, .int (nI (n + 1))), (1, .long (mx64 (ltS h n) (vL h (6000 + n) 1))), (4, .ref (6000 + n)), (0, .ref 1)]) dX6_latestStamped_36 rfl (nI_1 _) (by decide) rfl ?_
    refine wp_goto (tgt := 6) dX6_latestStamped_39 (by decide) ?_
    refine wp_sub [3, 1, 0] rfl ?_
    exact ih (n + 1) (by omega)
set_option maxRecDepth 100000 in
set_option maxHeartbeats 4000000 in
theorem ct_latest {g : GG} {h : HP} {Post : Option Value → HP → Prop} (s : Nat) (hs : s ≤ 100) (hr : SR h) (hc : vI h 1 6 = nI s) (hst : ∀ k, k < s → vP h 4 k = some (6000 + k) ∧ liv h (6000 + k) = true) (hp : Post (some (.long (ltS h s))) h) : CT g mX6_latestStamped [.ref 1] h Post := by
  show WP g mX6_latestStamped 0 [(0, .ref 1)] [] h 0 0 Post
  refine wp_ldc2 dX6_latestStamped_0 cnX6_58 ?_
  refine wp_lstore_n (lv' := [(1, .long ((-9000000000000000000))), (0, .ref 1)]) dX6_latestStamped_3 rfl (by decide) rfl ?_
  refine wp_iconst (v := 0) dX6_latestStamped_4 (by decide) ?_
  refine wp_istore_n (lv' := [(3, .int 0), (1, .long ((-9000000000000000000))), (0, .ref 1)]) dX6_latestStamped_5 rfl (by decide) rfl ?_
  refine wp_sub [2, 1, 0] rfl ?_
  exact lp_latest s hs hr hc hst hp s 0 (by omega)
