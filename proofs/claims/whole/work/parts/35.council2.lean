/-! contracts: the model's findCouncil, the sweep; council, meet -/
/-- pieces, whether the last time was so, least, greatest, behind the first k gaps -/
def swp (P : Nat → Int64) (V : Int64 → Nat) (nd : Int32) (c0 c1 : Int64) : Nat → Nat × Int32 × Int64 × Int64
  | 0 => (0, 0, c0, c1)
  | k + 1 =>
    if P k < P (k + 1) then
      if nd ≤ nI (V (P k)) then
        ((swp P V nd c0 c1 k).1 + (if (swp P V nd c0 c1 k).2.1 = 0 then 1 else 0), 1, (if (swp P V nd c0 c1 k).1 = 0 then P k else (swp P V nd c0 c1 k).2.2.1), P (k + 1) - 1)
      else ((swp P V nd c0 c1 k).1, 0, (swp P V nd c0 c1 k).2.2.1, (swp P V nd c0 c1 k).2.2.2)
    else swp P V nd c0 c1 k
theorem swp_01 (P : Nat → Int64) (V : Int64 → Nat) (nd : Int32) (c0 c1 : Int64) : ∀ k, (swp P V nd c0 c1 k).2.1 = 0 ∨ (swp P V nd c0 c1 k).2.1 = 1
  | 0 => Or.inl rfl
  | k + 1 => by
    have ih := swp_01 P V nd c0 c1 k
    unfold swp
    split
    · split
      · exact Or.inr rfl
      · exact Or.inl rfl
    · exact ih
theorem swp_le (P : Nat → Int64) (V : Int64 → Nat) (nd : Int32) (c0 c1 : Int64) : ∀ k, (swp P V nd c0 c1 k).1 ≤ k
  | 0 => Nat.le_refl 0
  | k + 1 => by
    have ih := swp_le P V nd c0 c1 k
    unfold swp
    split
    · split
      · show _ + (if _ then 1 else 0) ≤ k + 1
        split <;> omega
      · show (swp P V nd c0 c1 k).1 ≤ k + 1; omega
    · omega
def lir (W : Nat → Int32) (L H : Nat → Int64) (lo hi : Int64) : Nat → Int64
  | 0 => 0
  | k + 1 => lir W L H lo hi k ||| (if H k < lo ∨ hi < L k then 1 <<< (Int32.toInt64 (W k) &&& 63) else 0)
theorem lir_y {W : Nat → Int32} {L H : Nat → Int64} {lo hi : Int64} {k : Nat} (hz : H k < lo ∨ hi < L k) : lir W L H lo hi (k + 1) = lir W L H lo hi k ||| (1 <<< (Int32.toInt64 (W k) &&& 63)) := by show _ ||| (if _ then _ else _) = _; rw [if_pos hz]
theorem lir_n {W : Nat → Int32} {L H : Nat → Int64} {lo hi : Int64} {k : Nat} (hz : ¬ (H k < lo ∨ hi < L k)) : lir W L H lo hi (k + 1) = lir W L H lo hi k ||| 0 := by show _ ||| (if _ then _ else _) = _; rw [if_neg hz]
theorem wp_eq {g : GG} {M : MD} {pc : Nat} {lv lv2 : List (Nat × Value)} {st : List Value} {h : HP} {cs ss : Nat} {Post : Option Value → HP → Prop} (e : lv = lv2) (k : WP g M pc lv2 st h cs ss Post) : WP g M pc lv st h cs ss Post := by rw [e]; exact k
theorem sw0 {n : Nat} (hn : n < 2147483648) (hz : nI n = 0) : n = 0 := (nI_eq hn (by decide)).mp hz
theorem sw1 {n : Nat} (hz : ¬ nI n = 0) : ¬ n = 0 := fun e => hz (by rw [e]; rfl)
set_option maxRecDepth 100000 in
set_option maxHeartbeats 4000000 in
theorem lf_swp {g : GG} {h : HP} {Post : Option Value → HP → Prop} (s ff : Nat) (hs1 : 1 ≤ s) (hs : s ≤ 10) (hW : MW h) (hc40 : vI h 100 40 = nI s) (hff : ff < s) (P : Nat → Int64) (V : Int64 → Nat) (hV : V = fun t => hvN (vL h 143) (vL h 144) t s) (nd : Int32) (hnd : nd = nI (s - ff)) (c0 c1 : Int64) (hnext : ∀ h1, AG h h1 → vL h1 145 = P → vI h1 100 45 = nI (swp P V nd c0 c1 (2 * s - 1)).1 → vL h1 100 46 = (swp P V nd c0 c1 (2 * s - 1)).2.2.1 → vL h1 100 47 = (swp P V nd c0 c1 (2 * s - 1)).2.2.2 → WP g mX7_findCouncil 256 [(0, .ref 100), (1, .int (nI ff)), (2, .int (nI (2 * s)))] [] h1 0 0 Post) : ∀ (k n : Nat), n + k = 2 * s - 1 → ∀ (h' : HP) (hA : AG h h') (h145 : vL h' 145 = P) (h45 : vI h' 100 45 = nI (swp P V nd c0 c1 n).1) (h46 : vL h' 100 46 = (swp P V nd c0 c1 n).2.2.1) (h47 : vL h' 100 47 = (swp P V nd c0 c1 n).2.2.2), WP g mX7_findCouncil 119 [(0, .ref 100), (1, .int (nI ff)), (2, .int (nI (2 * s))), (3, .int ((swp P V nd c0 c1 n).2.1)), (4, .int (nI n))] [] h' 0 0 Post := by
  intro k
  induction k with
  | zero =>
    intro n e0 h' hA h145 h45 h46 h47
    refine wp_iload dX7_findCouncil_119 4 rfl ?_
    refine wp_iload_n dX7_findCouncil_121 rfl 2 rfl ?_
    refine wp_iconst (v := 1) dX7_findCouncil_122 (by decide) ?_
    refine wv_isub (nI (2 * s - 1)) (pk_sub (a := 2 * s) (b := 1) (by omega)) dX7_findCouncil_123 ?_
    refine wp_icmp_ge (tgt := 256) dX7_findCouncil_124 (by decide) (fun _ => ?_) (fun c_1 => absurd (nI_le (by omega) (by omega)) c_1)
    refine wp_sub [0, 1, 2] rfl ?_
    obtain rfl : n = 2 * s - 1 := by omega
    exact hnext h' hA h145 h45 h46 h47
  | succ k ih =>
    intro n e0 h' hA h145 h45 h46 h47
    refine wp_iload dX7_findCouncil_119 4 rfl ?_
    refine wp_iload_n dX7_findCouncil_121 rfl 2 rfl ?_
    refine wp_iconst (v := 1) dX7_findCouncil_122 (by decide) ?_
    refine wv_isub (nI (2 * s - 1)) (pk_sub (a := 2 * s) (b := 1) (by omega)) dX7_findCouncil_123 ?_
    refine wp_icmp_ge (tgt := 256) dX7_findCouncil_124 (by decide) (fun c_1 => absurd c_1 (nI_ge (by omega) (by omega))) (fun _ => ?_)
    refine wp_aload_n dX7_findCouncil_127 rfl 0 rfl ?_
    refine wp_getP (b := 145) dX7_findCouncil_128 flX7_123 rfl rfl (by (try simp only [liv_sI, liv_sL]); rw [hA.1]; exact hW.1) (by (try simp only [vP_sI, vP_sL]); rw [hA.2.1]; exact (hW.2 44 rfl).2) ?_
    refine wp_iload dX7_findCouncil_131 4 rfl ?_
    refine wv_lald n (P n) dX7_findCouncil_133 rfl (by (try simp only [liv_sI, liv_sL]); rw [hA.1]; exact (hW.2 44 rfl).1) rfl (by show n < 20; omega) (by (try simp only [vL_sI]); (try rw [vLn (by decide)]); rw [h145]) ?_
    refine wp_aload_n dX7_findCouncil_134 rfl 0 rfl ?_
    refine wp_getP (b := 145) dX7_findCouncil_135 flX7_123 rfl rfl (by (try simp only [liv_sI, liv_sL]); rw [hA.1]; exact hW.1) (by (try simp only [vP_sI, vP_sL]); rw [hA.2.1]; exact (hW.2 44 rfl).2) ?_
    refine wp_iload dX7_findCouncil_138 4 rfl ?_
    refine wp_iconst (v := 1) dX7_findCouncil_140 (by decide) ?_
    refine wv_iadd (nI (n + 1)) (wN_add rfl rfl) dX7_findCouncil_141 ?_
    refine wv_lald (n + 1) (P (n + 1)) dX7_findCouncil_142 rfl (by (try simp only [liv_sI, liv_sL]); rw [hA.1]; exact (hW.2 44 rfl).1) rfl (by show n + 1 < 20; omega) (by (try simp only [vL_sI]); (try rw [vLn (by decide)]); rw [h145]) ?_
    refine wp_pc (pc' := 143) rfl ?_
    refine wl_ge (tgt := 250) dX7_findCouncil_143 dX7_findCouncil_144 (by decide) (fun c_2 => ?_) (fun c_2 => ?_)
    · refine wp_iinc (q := 4) (x := nI n) (v := nI (n + 1)) (lv' := [(4, .int (nI (n + 1))), (0, .ref 100), (1, .int (nI ff)), (2, .int (nI (2 * s))), (3, .int ((swp P V nd c0 c1 n).2.1))]) dX7_findCouncil_250 rfl (nI_1 _) (by decide) rfl ?_
      refine wp_goto (tgt := 119) dX7_findCouncil_253 (by decide) ?_
      refine wp_sub [1, 2, 3, 4, 0] rfl ?_
      have e1 : swp P V nd c0 c1 (n + 1) = swp P V nd c0 c1 n := if_neg (Int64.not_lt.mpr c_2)
      have q := ih (n + 1) (by omega) h' hA h145 (by rw [e1]; exact h45) (by rw [e1]; exact h46) (by rw [e1]; exact h47)
      rw [e1] at q
      exact q
    · refine wp_aload_n dX7_findCouncil_147 rfl 0 rfl ?_
      refine wp_aload_n dX7_findCouncil_148 rfl 0 rfl ?_
      refine wp_getP (b := 145) dX7_findCouncil_149 flX7_123 rfl rfl (by (try simp only [liv_sI, liv_sL]); rw [hA.1]; exact hW.1) (by (try simp only [vP_sI, vP_sL]); rw [hA.2.1]; exact (hW.2 44 rfl).2) ?_
      refine wp_iload dX7_findCouncil_152 4 rfl ?_
      refine wv_lald n (P n) dX7_findCouncil_154 rfl (by (try simp only [liv_sI, liv_sL]); rw [hA.1]; exact (hW.2 44 rfl).1) rfl (by show n < 20; omega) (by (try simp only [vL_sI]); (try rw [vLn (by decide)]); rw [h145]) ?_
      refine wp_callV mX7_votesFor 100 [.long (P n)] [] (c := 7) dX7_findCouncil_155 iX7_votesFor (fun _ => trivial) mlX7_219 imX7_votesFor seX7_votesFor (by decide) rfl rfl ⟨by decide, by decide⟩ rfl rfl (Nat.le_of_ble_eq_true rfl) (Nat.le_of_ble_eq_true rfl) (by decide) (by decide) ?_
      refine cm_votesFor s hs (MW_eq hA.1 hA.2.1 hW) (by rw [hA.2.2.2.1 40 (by decide)]; exact hc40) (P n) ?_
      rw [hA.2.2.2.2.1 143 (by decide) (by decide), hA.2.2.2.2.1 144 (by decide) (by decide), show hvN (vL h 143) (vL h 144) (P n) s = V (P n) from by rw [hV]]
      show WP g mX7_findCouncil 158 [(0, .ref 100), (1, .int (nI ff)), (2, .int (nI (2 * s))), (3, .int ((swp P V nd c0 c1 n).2.1)), (4, .int (nI n))] [.int (nI (V (P n)))] _ 0 0 _
      refine wp_aload_n dX7_findCouncil_158 rfl 0 rfl ?_
      refine wv_getI (nI s) dX7_findCouncil_159 flX7_212 rfl rfl (by (try simp only [liv_sI, liv_sL]); rw [hA.1]; exact hW.1) (by (try simp only [vI_sL]); (try rw [vIj (by decide)]); rw [hA.2.2.2.1 40 (by decide)]; exact hc40) ?_
      refine wp_iload_n dX7_findCouncil_162 rfl 1 rfl ?_
      refine wv_isub nd (by rw [hnd]; exact pk_sub (by omega)) dX7_findCouncil_163 ?_
      refine wp_icmp_lt (tgt := 171) dX7_findCouncil_164 (by decide) (fun c_3 => ?_) (fun c_3 => ?_)
      · refine wp_iconst (v := 0) dX7_findCouncil_171 (by decide) ?_
        refine wp_istore (lv' := [(5, .int 0), (0, .ref 100), (1, .int (nI ff)), (2, .int (nI (2 * s))), (3, .int ((swp P V nd c0 c1 n).2.1)), (4, .int (nI n))]) dX7_findCouncil_172 (by decide) rfl ?_
        refine wp_iload dX7_findCouncil_174 0 rfl ?_
        refine wp_if_eq (tgt := 197) dX7_findCouncil_176 (by decide) (fun _ => ?_) (fun c_4 => absurd (by decide) c_4)
        refine wp_aload_n dX7_findCouncil_197 rfl 1 rfl ?_
        refine wp_dup dX7_findCouncil_198 rfl ?_
        refine wv_getI (nI (swp P V nd c0 c1 n).1) dX7_findCouncil_199 flX7_223 rfl rfl (by (try simp only [liv_sI, liv_sL]); rw [hA.1]; exact hW.1) (by (try simp only [vI_sL]); exact h45) ?_
        refine wp_iload dX7_findCouncil_202 0 rfl ?_
        refine wp_if_eq (tgt := 215) dX7_findCouncil_204 (by decide) (fun _ => ?_) (fun c_5 => absurd (by decide) c_5)
        refine wp_iconst (v := 0) dX7_findCouncil_215 (by decide) ?_
        refine wp_iadd dX7_findCouncil_216 ?_
        refine wp_putI dX7_findCouncil_217 flX7_223 (Or.inl rfl) rfl rfl rfl rfl (by (try simp only [liv_sI, liv_sL]); rw [hA.1]; exact hW.1) ?_
        refine wp_aload_n dX7_findCouncil_220 rfl 1 rfl ?_
        refine wp_iload dX7_findCouncil_221 0 rfl ?_
        refine wp_pc (pc' := 223) rfl ?_
        refine wp_if_eq (tgt := 240) dX7_findCouncil_223 (by decide) (fun _ => ?_) (fun c_6 => absurd (by decide) c_6)
        refine wp_aload_n dX7_findCouncil_240 rfl 1 rfl ?_
        refine wv_getL ((swp P V nd c0 c1 n).2.2.2) dX7_findCouncil_241 flX7_229 rfl rfl (by (try simp only [liv_sI, liv_sL]); rw [hA.1]; exact hW.1) (by (try simp only [vL_sI]); (try rw [vLj (by decide)]); exact h47) ?_
        refine wp_putL dX7_findCouncil_244 flX7_229 (Or.inl rfl) rfl rfl (by (try simp only [liv_sI, liv_sL]); rw [hA.1]; exact hW.1) ?_
        refine wp_iload dX7_findCouncil_247 0 rfl ?_
        refine wp_istore_n (lv' := [(3, .int 0), (5, .int 0), (0, .ref 100), (1, .int (nI ff)), (2, .int (nI (2 * s))), (4, .int (nI n))]) dX7_findCouncil_249 rfl (by decide) rfl ?_
        refine wp_iinc (q := 5) (x := nI n) (v := nI (n + 1)) (lv' := [(4, .int (nI (n + 1))), (3, .int 0), (5, .int 0), (0, .ref 100), (1, .int (nI ff)), (2, .int (nI (2 * s)))]) dX7_findCouncil_250 rfl (nI_1 _) (by decide) rfl ?_
        refine wp_goto (tgt := 119) dX7_findCouncil_253 (by decide) ?_
        refine wp_sub [3, 4, 5, 1, 0] rfl ?_
        have e1 : swp P V nd c0 c1 (n + 1) = ((swp P V nd c0 c1 n).1, 0, (swp P V nd c0 c1 n).2.2.1, (swp P V nd c0 c1 n).2.2.2) := (if_pos (Int64.not_le.mp c_2)).trans (if_neg (Int32.not_le.mpr c_3))
        have p0 : (swp P V nd c0 c1 n).1 < 2147483648 := by have := swp_le P V nd c0 c1 n; omega
        refine wp_eq (lv2 := [(0, .ref 100), (1, .int (nI ff)), (2, .int (nI (2 * s))), (3, .int ((swp P V nd c0 c1 (n + 1)).2.1)), (4, .int (nI (n + 1)))]) (by rw [e1]; rfl) ?_
        refine ih (n + 1) (by omega) _ (AG_46 (by omega) (AG_45 hA)) ?_ ?_ ?_ ?_
        · (repeat first | rw [vL_sI] | rw [vLn (by decide)]); exact h145
        · rw [e1]; simp [vI, sI, sL, up2, nI_1]
        · rw [e1]; rw [← h46]; simp [vL, sI, sL, up2]
        · rw [e1]; simp [vL, sI, sL, up2]
      · refine wp_iconst (v := 1) dX7_findCouncil_167 (by decide) ?_
        refine wp_goto (tgt := 172) dX7_findCouncil_168 (by decide) ?_
        refine wp_istore (lv' := [(5, .int 1), (0, .ref 100), (1, .int (nI ff)), (2, .int (nI (2 * s))), (3, .int ((swp P V nd c0 c1 n).2.1)), (4, .int (nI n))]) dX7_findCouncil_172 (by decide) rfl ?_
        refine wp_iload dX7_findCouncil_174 0 rfl ?_
        refine wp_if_eq (tgt := 197) dX7_findCouncil_176 (by decide) (fun c_7 => absurd c_7 (by decide)) (fun _ => ?_)
        refine wp_aload_n dX7_findCouncil_179 rfl 1 rfl ?_
        refine wv_getI (nI (swp P V nd c0 c1 n).1) dX7_findCouncil_180 flX7_223 rfl rfl (by (try simp only [liv_sI, liv_sL]); rw [hA.1]; exact hW.1) (by (try simp only [vI_sL]); exact h45) ?_
        refine wp_if_ne (tgt := 197) dX7_findCouncil_183 (by decide) (fun c_8 => ?_) (fun c_8 => ?_)
        · refine wp_aload_n dX7_findCouncil_197 rfl 1 rfl ?_
          refine wp_dup dX7_findCouncil_198 rfl ?_
          refine wv_getI (nI (swp P V nd c0 c1 n).1) dX7_findCouncil_199 flX7_223 rfl rfl (by (try simp only [liv_sI, liv_sL]); rw [hA.1]; exact hW.1) (by (try simp only [vI_sL]); exact h45) ?_
          refine wp_iload dX7_findCouncil_202 0 rfl ?_
          refine wp_if_eq (tgt := 215) dX7_findCouncil_204 (by decide) (fun c_9 => absurd c_9 (by decide)) (fun _ => ?_)
          refine wp_iload_n dX7_findCouncil_207 rfl 4 rfl ?_
          refine wp_if_ne (tgt := 215) dX7_findCouncil_208 (by decide) (fun c_10 => ?_) (fun c_10 => ?_)
          · refine wp_iconst (v := 0) dX7_findCouncil_215 (by decide) ?_
            refine wp_iadd dX7_findCouncil_216 ?_
            refine wp_putI dX7_findCouncil_217 flX7_223 (Or.inl rfl) rfl rfl rfl rfl (by (try simp only [liv_sI, liv_sL]); rw [hA.1]; exact hW.1) ?_
            refine wp_aload_n dX7_findCouncil_220 rfl 1 rfl ?_
            refine wp_iload dX7_findCouncil_221 0 rfl ?_
            refine wp_if_eq (tgt := 240) dX7_findCouncil_223 (by decide) (fun c_11 => absurd c_11 (by decide)) (fun _ => ?_)
            refine wp_aload_n dX7_findCouncil_226 rfl 1 rfl ?_
            refine wp_getP (b := 145) dX7_findCouncil_227 flX7_123 rfl rfl (by (try simp only [liv_sI, liv_sL]); rw [hA.1]; exact hW.1) (by (try simp only [vP_sI, vP_sL]); rw [hA.2.1]; exact (hW.2 44 rfl).2) ?_
            refine wp_iload dX7_findCouncil_230 5 rfl ?_
            refine wp_iconst (v := 1) dX7_findCouncil_232 (by decide) ?_
            refine wv_iadd (nI (n + 1)) (wN_add rfl rfl) dX7_findCouncil_233 ?_
            refine wv_lald (n + 1) (P (n + 1)) dX7_findCouncil_234 rfl (by (try simp only [liv_sI, liv_sL]); rw [hA.1]; exact (hW.2 44 rfl).1) rfl (by show n + 1 < 20; omega) (by (try simp only [vL_sI]); (try rw [vLn (by decide)]); rw [h145]) ?_
            refine wp_lconst (v := 1) dX7_findCouncil_235 rfl ?_
            refine wp_lsub dX7_findCouncil_236 ?_
            refine wp_pc (pc' := 237) rfl ?_
            refine wp_goto (tgt := 244) dX7_findCouncil_237 (by decide) ?_
            refine wp_putL dX7_findCouncil_244 flX7_229 (Or.inl rfl) rfl rfl (by (try simp only [liv_sI, liv_sL]); rw [hA.1]; exact hW.1) ?_
            refine wp_iload dX7_findCouncil_247 0 rfl ?_
            refine wp_istore_n (lv' := [(3, .int 1), (5, .int 1), (0, .ref 100), (1, .int (nI ff)), (2, .int (nI (2 * s))), (4, .int (nI n))]) dX7_findCouncil_249 rfl (by decide) rfl ?_
            refine wp_iinc (q := 5) (x := nI n) (v := nI (n + 1)) (lv' := [(4, .int (nI (n + 1))), (3, .int 1), (5, .int 1), (0, .ref 100), (1, .int (nI ff)), (2, .int (nI (2 * s)))]) dX7_findCouncil_250 rfl (nI_1 _) (by decide) rfl ?_
            refine wp_goto (tgt := 119) dX7_findCouncil_253 (by decide) ?_
            refine wp_sub [3, 4, 5, 1, 0] rfl ?_
            have e1 : swp P V nd c0 c1 (n + 1) = ((swp P V nd c0 c1 n).1 + (if (swp P V nd c0 c1 n).2.1 = 0 then 1 else 0), 1, (if (swp P V nd c0 c1 n).1 = 0 then P n else (swp P V nd c0 c1 n).2.2.1), P (n + 1) - 1) := (if_pos (Int64.not_le.mp c_2)).trans (if_pos (Int32.not_lt.mp c_3))
            have p0 : (swp P V nd c0 c1 n).1 < 2147483648 := by have := swp_le P V nd c0 c1 n; omega
            refine wp_eq (lv2 := [(0, .ref 100), (1, .int (nI ff)), (2, .int (nI (2 * s))), (3, .int ((swp P V nd c0 c1 (n + 1)).2.1)), (4, .int (nI (n + 1)))]) (by rw [e1]; rfl) ?_
            refine ih (n + 1) (by omega) _ (AG_46 (by omega) (AG_45 hA)) ?_ ?_ ?_ ?_
            · (repeat first | rw [vL_sI] | rw [vLn (by decide)]); exact h145
            · rw [e1]; simp [vI, sI, sL, up2, nI_1, c_10]
            · rw [e1]; have q0 : ¬ (swp P V nd c0 c1 n).1 = 0 := sw1 c_8; simp only [q0, if_false]; rw [← h46]; simp [vL, sI, sL, up2]
            · rw [e1]; simp [vL, sI, sL, up2]
          · refine wp_iconst (v := 1) dX7_findCouncil_211 (by decide) ?_
            refine wp_goto (tgt := 216) dX7_findCouncil_212 (by decide) ?_
            refine wp_iadd dX7_findCouncil_216 ?_
            refine wp_putI dX7_findCouncil_217 flX7_223 (Or.inl rfl) rfl rfl rfl rfl (by (try simp only [liv_sI, liv_sL]); rw [hA.1]; exact hW.1) ?_
            refine wp_aload_n dX7_findCouncil_220 rfl 1 rfl ?_
            refine wp_iload dX7_findCouncil_221 0 rfl ?_
            refine wp_if_eq (tgt := 240) dX7_findCouncil_223 (by decide) (fun c_12 => absurd c_12 (by decide)) (fun _ => ?_)
            refine wp_aload_n dX7_findCouncil_226 rfl 1 rfl ?_
            refine wp_getP (b := 145) dX7_findCouncil_227 flX7_123 rfl rfl (by (try simp only [liv_sI, liv_sL]); rw [hA.1]; exact hW.1) (by (try simp only [vP_sI, vP_sL]); rw [hA.2.1]; exact (hW.2 44 rfl).2) ?_
            refine wp_iload dX7_findCouncil_230 5 rfl ?_
            refine wp_iconst (v := 1) dX7_findCouncil_232 (by decide) ?_
            refine wv_iadd (nI (n + 1)) (wN_add rfl rfl) dX7_findCouncil_233 ?_
            refine wv_lald (n + 1) (P (n + 1)) dX7_findCouncil_234 rfl (by (try simp only [liv_sI, liv_sL]); rw [hA.1]; exact (hW.2 44 rfl).1) rfl (by show n + 1 < 20; omega) (by (try simp only [vL_sI]); (try rw [vLn (by decide)]); rw [h145]) ?_
            refine wp_lconst (v := 1) dX7_findCouncil_235 rfl ?_
            refine wp_pc (pc' := 236) rfl ?_
            refine wp_lsub dX7_findCouncil_236 ?_
            refine wp_goto (tgt := 244) dX7_findCouncil_237 (by decide) ?_
            refine wp_putL dX7_findCouncil_244 flX7_229 (Or.inl rfl) rfl rfl (by (try simp only [liv_sI, liv_sL]); rw [hA.1]; exact hW.1) ?_
            refine wp_iload dX7_findCouncil_247 0 rfl ?_
            refine wp_istore_n (lv' := [(3, .int 1), (5, .int 1), (0, .ref 100), (1, .int (nI ff)), (2, .int (nI (2 * s))), (4, .int (nI n))]) dX7_findCouncil_249 rfl (by decide) rfl ?_
            refine wp_iinc (q := 5) (x := nI n) (v := nI (n + 1)) (lv' := [(4, .int (nI (n + 1))), (3, .int 1), (5, .int 1), (0, .ref 100), (1, .int (nI ff)), (2, .int (nI (2 * s)))]) dX7_findCouncil_250 rfl (nI_1 _) (by decide) rfl ?_
            refine wp_goto (tgt := 119) dX7_findCouncil_253 (by decide) ?_
            refine wp_sub [3, 4, 5, 1, 0] rfl ?_
            have e1 : swp P V nd c0 c1 (n + 1) = ((swp P V nd c0 c1 n).1 + (if (swp P V nd c0 c1 n).2.1 = 0 then 1 else 0), 1, (if (swp P V nd c0 c1 n).1 = 0 then P n else (swp P V nd c0 c1 n).2.2.1), P (n + 1) - 1) := (if_pos (Int64.not_le.mp c_2)).trans (if_pos (Int32.not_lt.mp c_3))
            have p0 : (swp P V nd c0 c1 n).1 < 2147483648 := by have := swp_le P V nd c0 c1 n; omega
            refine wp_eq (lv2 := [(0, .ref 100), (1, .int (nI ff)), (2, .int (nI (2 * s))), (3, .int ((swp P V nd c0 c1 (n + 1)).2.1)), (4, .int (nI (n + 1)))]) (by rw [e1]; rfl) ?_
            refine ih (n + 1) (by omega) _ (AG_46 (by omega) (AG_45 hA)) ?_ ?_ ?_ ?_
            · (repeat first | rw [vL_sI] | rw [vLn (by decide)]); exact h145
            · rw [e1]; simp [vI, sI, sL, up2, nI_1, c_10]
            · rw [e1]; have q0 : ¬ (swp P V nd c0 c1 n).1 = 0 := sw1 c_8; simp only [q0, if_false]; rw [← h46]; simp [vL, sI, sL, up2]
            · rw [e1]; simp [vL, sI, sL, up2]
        · refine wp_aload_n dX7_findCouncil_186 rfl 1 rfl ?_
          refine wp_aload_n dX7_findCouncil_187 rfl 1 rfl ?_
          refine wp_getP (b := 145) dX7_findCouncil_188 flX7_123 rfl rfl (by (try simp only [liv_sI, liv_sL]); rw [hA.1]; exact hW.1) (by (try simp only [vP_sI, vP_sL]); rw [hA.2.1]; exact (hW.2 44 rfl).2) ?_
          refine wp_iload dX7_findCouncil_191 5 rfl ?_
          refine wv_lald n (P n) dX7_findCouncil_193 rfl (by (try simp only [liv_sI, liv_sL]); rw [hA.1]; exact (hW.2 44 rfl).1) rfl (by show n < 20; omega) (by (try simp only [vL_sI]); (try rw [vLn (by decide)]); rw [h145]) ?_
          refine wp_putL dX7_findCouncil_194 flX7_226 (Or.inl rfl) rfl rfl (by (try simp only [liv_sI, liv_sL]); rw [hA.1]; exact hW.1) ?_
          refine wp_aload_n dX7_findCouncil_197 rfl 1 rfl ?_
          refine wp_dup dX7_findCouncil_198 rfl ?_
          refine wv_getI (nI (swp P V nd c0 c1 n).1) dX7_findCouncil_199 flX7_223 rfl rfl (by (try simp only [liv_sI, liv_sL]); rw [hA.1]; exact hW.1) (by (try simp only [vI_sL]); exact h45) ?_
          refine wp_iload dX7_findCouncil_202 0 rfl ?_
          refine wp_if_eq (tgt := 215) dX7_findCouncil_204 (by decide) (fun c_13 => absurd c_13 (by decide)) (fun _ => ?_)
          refine wp_iload_n dX7_findCouncil_207 rfl 4 rfl ?_
          refine wp_if_ne (tgt := 215) dX7_findCouncil_208 (by decide) (fun c_14 => ?_) (fun c_14 => ?_)
          · refine wp_iconst (v := 0) dX7_findCouncil_215 (by decide) ?_
            refine wp_iadd dX7_findCouncil_216 ?_
            refine wp_putI dX7_findCouncil_217 flX7_223 (Or.inl rfl) rfl rfl rfl rfl (by (try simp only [liv_sI, liv_sL]); rw [hA.1]; exact hW.1) ?_
            refine wp_aload_n dX7_findCouncil_220 rfl 1 rfl ?_
            refine wp_iload dX7_findCouncil_221 0 rfl ?_
            refine wp_if_eq (tgt := 240) dX7_findCouncil_223 (by decide) (fun c_15 => absurd c_15 (by decide)) (fun _ => ?_)
            refine wp_aload_n dX7_findCouncil_226 rfl 1 rfl ?_
            refine wp_getP (b := 145) dX7_findCouncil_227 flX7_123 rfl rfl (by (try simp only [liv_sI, liv_sL]); rw [hA.1]; exact hW.1) (by (try simp only [vP_sI, vP_sL]); rw [hA.2.1]; exact (hW.2 44 rfl).2) ?_
            refine wp_iload dX7_findCouncil_230 5 rfl ?_
            refine wp_iconst (v := 1) dX7_findCouncil_232 (by decide) ?_
            refine wv_iadd (nI (n + 1)) (wN_add rfl rfl) dX7_findCouncil_233 ?_
            refine wv_lald (n + 1) (P (n + 1)) dX7_findCouncil_234 rfl (by (try simp only [liv_sI, liv_sL]); rw [hA.1]; exact (hW.2 44 rfl).1) rfl (by show n + 1 < 20; omega) (by (try simp only [vL_sI]); (try rw [vLn (by decide)]); rw [h145]) ?_
            refine wp_lconst (v := 1) dX7_findCouncil_235 rfl ?_
            refine wp_lsub dX7_findCouncil_236 ?_
            refine wp_pc (pc' := 237) rfl ?_
            refine wp_goto (tgt := 244) dX7_findCouncil_237 (by decide) ?_
            refine wp_putL dX7_findCouncil_244 flX7_229 (Or.inl rfl) rfl rfl (by (try simp only [liv_sI, liv_sL]); rw [hA.1]; exact hW.1) ?_
            refine wp_iload dX7_findCouncil_247 0 rfl ?_
            refine wp_istore_n (lv' := [(3, .int 1), (5, .int 1), (0, .ref 100), (1, .int (nI ff)), (2, .int (nI (2 * s))), (4, .int (nI n))]) dX7_findCouncil_249 rfl (by decide) rfl ?_
            refine wp_iinc (q := 5) (x := nI n) (v := nI (n + 1)) (lv' := [(4, .int (nI (n + 1))), (3, .int 1), (5, .int 1), (0, .ref 100), (1, .int (nI ff)), (2, .int (nI (2 * s)))]) dX7_findCouncil_250 rfl (nI_1 _) (by decide) rfl ?_
            refine wp_goto (tgt := 119) dX7_findCouncil_253 (by decide) ?_
            refine wp_sub [3, 4, 5, 1, 0] rfl ?_
            have e1 : swp P V nd c0 c1 (n + 1) = ((swp P V nd c0 c1 n).1 + (if (swp P V nd c0 c1 n).2.1 = 0 then 1 else 0), 1, (if (swp P V nd c0 c1 n).1 = 0 then P n else (swp P V nd c0 c1 n).2.2.1), P (n + 1) - 1) := (if_pos (Int64.not_le.mp c_2)).trans (if_pos (Int32.not_lt.mp c_3))
            have p0 : (swp P V nd c0 c1 n).1 < 2147483648 := by have := swp_le P V nd c0 c1 n; omega
            refine wp_eq (lv2 := [(0, .ref 100), (1, .int (nI ff)), (2, .int (nI (2 * s))), (3, .int ((swp P V nd c0 c1 (n + 1)).2.1)), (4, .int (nI (n + 1)))]) (by rw [e1]; rfl) ?_
            refine ih (n + 1) (by omega) _ (AG_46 (by omega) (AG_45 (AG_46 (by omega) hA))) ?_ ?_ ?_ ?_
            · (repeat first | rw [vL_sI] | rw [vLn (by decide)]); exact h145
            · rw [e1]; simp [vI, sI, sL, up2, nI_1, c_14]
            · rw [e1]; have q0 : (swp P V nd c0 c1 n).1 = 0 := sw0 p0 c_8; simp [vL, sI, sL, up2, q0]
            · rw [e1]; simp [vL, sI, sL, up2]
          · refine wp_iconst (v := 1) dX7_findCouncil_211 (by decide) ?_
            refine wp_goto (tgt := 216) dX7_findCouncil_212 (by decide) ?_
            refine wp_iadd dX7_findCouncil_216 ?_
            refine wp_putI dX7_findCouncil_217 flX7_223 (Or.inl rfl) rfl rfl rfl rfl (by (try simp only [liv_sI, liv_sL]); rw [hA.1]; exact hW.1) ?_
            refine wp_aload_n dX7_findCouncil_220 rfl 1 rfl ?_
            refine wp_iload dX7_findCouncil_221 0 rfl ?_
            refine wp_if_eq (tgt := 240) dX7_findCouncil_223 (by decide) (fun c_16 => absurd c_16 (by decide)) (fun _ => ?_)
            refine wp_aload_n dX7_findCouncil_226 rfl 1 rfl ?_
            refine wp_getP (b := 145) dX7_findCouncil_227 flX7_123 rfl rfl (by (try simp only [liv_sI, liv_sL]); rw [hA.1]; exact hW.1) (by (try simp only [vP_sI, vP_sL]); rw [hA.2.1]; exact (hW.2 44 rfl).2) ?_
            refine wp_iload dX7_findCouncil_230 5 rfl ?_
            refine wp_iconst (v := 1) dX7_findCouncil_232 (by decide) ?_
            refine wv_iadd (nI (n + 1)) (wN_add rfl rfl) dX7_findCouncil_233 ?_
            refine wv_lald (n + 1) (P (n + 1)) dX7_findCouncil_234 rfl (by (try simp only [liv_sI, liv_sL]); rw [hA.1]; exact (hW.2 44 rfl).1) rfl (by show n + 1 < 20; omega) (by (try simp only [vL_sI]); (try rw [vLn (by decide)]); rw [h145]) ?_
            refine wp_lconst (v := 1) dX7_findCouncil_235 rfl ?_
            refine wp_pc (pc' := 236) rfl ?_
            refine wp_lsub dX7_findCouncil_236 ?_
            refine wp_goto (tgt := 244) dX7_findCouncil_237 (by decide) ?_
            refine wp_putL dX7_findCouncil_244 flX7_229 (Or.inl rfl) rfl rfl (by (try simp only [liv_sI, liv_sL]); rw [hA.1]; exact hW.1) ?_
            refine wp_iload dX7_findCouncil_247 0 rfl ?_
            refine wp_istore_n (lv' := [(3, .int 1), (5, .int 1), (0, .ref 100), (1, .int (nI ff)), (2, .int (nI (2 * s))), (4, .int (nI n))]) dX7_findCouncil_249 rfl (by decide) rfl ?_
            refine wp_iinc (q := 5) (x := nI n) (v := nI (n + 1)) (lv' := [(4, .int (nI (n + 1))), (3, .int 1), (5, .int 1), (0, .ref 100), (1, .int (nI ff)), (2, .int (nI (2 * s)))]) dX7_findCouncil_250 rfl (nI_1 _) (by decide) rfl ?_
            refine wp_goto (tgt := 119) dX7_findCouncil_253 (by decide) ?_
            refine wp_sub [3, 4, 5, 1, 0] rfl ?_
            have e1 : swp P V nd c0 c1 (n + 1) = ((swp P V nd c0 c1 n).1 + (if (swp P V nd c0 c1 n).2.1 = 0 then 1 else 0), 1, (if (swp P V nd c0 c1 n).1 = 0 then P n else (swp P V nd c0 c1 n).2.2.1), P (n + 1) - 1) := (if_pos (Int64.not_le.mp c_2)).trans (if_pos (Int32.not_lt.mp c_3))
            have p0 : (swp P V nd c0 c1 n).1 < 2147483648 := by have := swp_le P V nd c0 c1 n; omega
            refine wp_eq (lv2 := [(0, .ref 100), (1, .int (nI ff)), (2, .int (nI (2 * s))), (3, .int ((swp P V nd c0 c1 (n + 1)).2.1)), (4, .int (nI (n + 1)))]) (by rw [e1]; rfl) ?_
            refine ih (n + 1) (by omega) _ (AG_46 (by omega) (AG_45 (AG_46 (by omega) hA))) ?_ ?_ ?_ ?_
            · (repeat first | rw [vL_sI] | rw [vLn (by decide)]); exact h145
            · rw [e1]; simp [vI, sI, sL, up2, nI_1, c_14]
            · rw [e1]; have q0 : (swp P V nd c0 c1 n).1 = 0 := sw0 p0 c_8; simp [vL, sI, sL, up2, q0]
            · rw [e1]; simp [vL, sI, sL, up2]
set_option maxRecDepth 100000 in
set_option maxHeartbeats 4000000 in
theorem lf_lir {g : GG} {h : HP} {Post : Option Value → HP → Prop} (s : Nat) (hs : s ≤ 10) (hW : MW h) (hc40 : vI h 100 40 = nI s) (pc_ : Nat) (hp0 : pc_ < 1000) (lo hi : Int64) (hpc : 0 < pc_) (hp : ∀ h', AG h h' → vI h' 100 45 = nI pc_ → vL h' 100 46 = lo → vL h' 100 47 = hi → vL h' 100 48 = lir (vI h 142) (vL h 143) (vL h 144) lo hi s → Post (some (.int 1)) h') : ∀ (k n : Nat), n + k = s → ∀ (h' : HP) (hA : AG h h') (h45 : vI h' 100 45 = nI pc_) (h46 : vL h' 100 46 = lo) (h47 : vL h' 100 47 = hi) (h48 : vL h' 100 48 = lir (vI h 142) (vL h 143) (vL h 144) lo hi n), WP g mX7_findCouncil 264 [(0, .ref 100), (4, .int (nI n))] [] h' 0 0 Post := by
  intro k
  induction k with
  | zero =>
    intro n e0 h' hA h45 h46 h47 h48
    refine wp_iload dX7_findCouncil_264 1 rfl ?_
    refine wp_aload_n dX7_findCouncil_266 rfl 0 rfl ?_
    refine wv_getI (nI s) dX7_findCouncil_267 flX7_212 rfl rfl (by (try simp only [liv_sI, liv_sL]); rw [hA.1]; exact hW.1) (by rw [hA.2.2.2.1 40 (by decide)]; exact hc40) ?_
    refine wp_icmp_ge (tgt := 350) dX7_findCouncil_270 (by decide) (fun _ => ?_) (fun c_1 => absurd (nI_le (by omega) (by omega)) c_1)
    refine wp_aload_n dX7_findCouncil_350 rfl 0 rfl ?_
    refine wv_getI (nI pc_) dX7_findCouncil_351 flX7_223 rfl rfl (by (try simp only [liv_sI, liv_sL]); rw [hA.1]; exact hW.1) h45 ?_
    refine wp_if_le (tgt := 361) dX7_findCouncil_354 (by decide) (fun c_2 => absurd c_2 (nI_nle (by omega) (by omega))) (fun _ => ?_)
    refine wp_iconst (v := 1) dX7_findCouncil_357 (by decide) ?_
    refine wp_goto (tgt := 362) dX7_findCouncil_358 (by decide) ?_
    refine wp_zret dX7_findCouncil_362 rfl (by decide) (by decide) rfl ?_
    obtain rfl : n = s := by omega
    exact hp h' hA h45 h46 h47 h48
  | succ k ih =>
    intro n e0 h' hA h45 h46 h47 h48
    refine wp_iload dX7_findCouncil_264 1 rfl ?_
    refine wp_aload_n dX7_findCouncil_266 rfl 0 rfl ?_
    refine wv_getI (nI s) dX7_findCouncil_267 flX7_212 rfl rfl (by (try simp only [liv_sI, liv_sL]); rw [hA.1]; exact hW.1) (by rw [hA.2.2.2.1 40 (by decide)]; exact hc40) ?_
    refine wp_icmp_ge (tgt := 350) dX7_findCouncil_270 (by decide) (fun c_1 => absurd c_1 (nI_ge (by omega) (by omega))) (fun _ => ?_)
    refine wp_aload_n dX7_findCouncil_273 rfl 0 rfl ?_
    refine wv_getI (nI pc_) dX7_findCouncil_274 flX7_223 rfl rfl (by (try simp only [liv_sI, liv_sL]); rw [hA.1]; exact hW.1) h45 ?_
    refine wp_if_le (tgt := 350) dX7_findCouncil_277 (by decide) (fun c_2 => absurd c_2 (nI_nle (by omega) (by omega))) (fun _ => ?_)
    refine wp_aload_n dX7_findCouncil_280 rfl 0 rfl ?_
    refine wp_getP (b := 144) dX7_findCouncil_281 flX7_120 rfl rfl (by (try simp only [liv_sI, liv_sL]); rw [hA.1]; exact hW.1) (by (try simp only [vP_sI, vP_sL]); rw [hA.2.1]; exact (hW.2 43 rfl).2) ?_
    refine wp_iload dX7_findCouncil_284 1 rfl ?_
    refine wv_lald n (vL h 144 n) dX7_findCouncil_286 rfl (by (try simp only [liv_sI, liv_sL]); rw [hA.1]; exact (hW.2 43 rfl).1) rfl (by show n < 10; omega) (by rw [hA.2.2.2.2.1 144 (by decide) (by decide)]) ?_
    refine wp_aload_n dX7_findCouncil_287 rfl 0 rfl ?_
    refine wv_getL (lo) dX7_findCouncil_288 flX7_226 rfl rfl (by (try simp only [liv_sI, liv_sL]); rw [hA.1]; exact hW.1) h46 ?_
    refine wl_lt (tgt := 310) dX7_findCouncil_291 dX7_findCouncil_292 (by decide) (fun c_3 => ?_) (fun c_3 => ?_)
    · refine wp_iconst (v := 1) dX7_findCouncil_310 (by decide) ?_
      refine wp_goto (tgt := 315) dX7_findCouncil_311 (by decide) ?_
      refine wp_istore (lv' := [(5, .int 1), (0, .ref 100), (4, .int (nI n))]) dX7_findCouncil_315 (by decide) rfl ?_
      refine wp_aload_n dX7_findCouncil_317 rfl 1 rfl ?_
      refine wp_dup dX7_findCouncil_318 rfl ?_
      refine wv_getL (lir (vI h 142) (vL h 143) (vL h 144) lo hi n) dX7_findCouncil_319 flX7_232 rfl rfl (by (try simp only [liv_sI, liv_sL]); rw [hA.1]; exact hW.1) h48 ?_
      refine wp_iload dX7_findCouncil_322 0 rfl ?_
      refine wp_if_eq (tgt := 339) dX7_findCouncil_324 (by decide) (fun c_4 => absurd c_4 (by decide)) (fun _ => ?_)
      refine wp_lconst (v := 1) dX7_findCouncil_327 rfl ?_
      refine wp_aload_n dX7_findCouncil_328 rfl 1 rfl ?_
      refine wp_getP (b := 142) dX7_findCouncil_329 flX7_114 rfl rfl (by (try simp only [liv_sI, liv_sL]); rw [hA.1]; exact hW.1) (by (try simp only [vP_sI, vP_sL]); rw [hA.2.1]; exact (hW.2 41 rfl).2) ?_
      refine wp_iload dX7_findCouncil_332 2 rfl ?_
      refine wv_iald n (vI h 142 n) dX7_findCouncil_334 rfl (by (try simp only [liv_sI, liv_sL]); rw [hA.1]; exact (hW.2 41 rfl).1) rfl (by show n < 10; omega) (by rw [hA.2.2.1 142 (by decide)]) ?_
      refine wp_lshl dX7_findCouncil_335 rfl ?_
      refine wp_pc (pc' := 336) rfl ?_
      refine wp_goto (tgt := 340) dX7_findCouncil_336 (by decide) ?_
      refine wp_lor dX7_findCouncil_340 ?_
      refine wp_putL dX7_findCouncil_341 flX7_232 (Or.inl rfl) rfl rfl (by (try simp only [liv_sI, liv_sL]); rw [hA.1]; exact hW.1) ?_
      refine wp_iinc (q := 2) (x := nI n) (v := nI (n + 1)) (lv' := [(4, .int (nI (n + 1))), (5, .int 1), (0, .ref 100)]) dX7_findCouncil_344 rfl (nI_1 _) (by decide) rfl ?_
      refine wp_goto (tgt := 264) dX7_findCouncil_347 (by decide) ?_
      refine wp_sub [2, 0] rfl ?_
      exact ih (n + 1) (by omega) _ (AG_46 (by omega) hA) h45 (by rw [vLj (by decide)]; exact h46) (by rw [vLj (by decide)]; exact h47) (by rw [vLs, lir_y (Or.inl c_3)])
    · refine wp_aload_n dX7_findCouncil_295 rfl 0 rfl ?_
      refine wp_getP (b := 143) dX7_findCouncil_296 flX7_117 rfl rfl (by (try simp only [liv_sI, liv_sL]); rw [hA.1]; exact hW.1) (by (try simp only [vP_sI, vP_sL]); rw [hA.2.1]; exact (hW.2 42 rfl).2) ?_
      refine wp_iload dX7_findCouncil_299 1 rfl ?_
      refine wv_lald n (vL h 143 n) dX7_findCouncil_301 rfl (by (try simp only [liv_sI, liv_sL]); rw [hA.1]; exact (hW.2 42 rfl).1) rfl (by show n < 10; omega) (by rw [hA.2.2.2.2.1 143 (by decide) (by decide)]) ?_
      refine wp_aload_n dX7_findCouncil_302 rfl 0 rfl ?_
      refine wv_getL (hi) dX7_findCouncil_303 flX7_229 rfl rfl (by (try simp only [liv_sI, liv_sL]); rw [hA.1]; exact hW.1) h47 ?_
      refine wl_le (tgt := 314) dX7_findCouncil_306 dX7_findCouncil_307 (by decide) (fun c_5 => ?_) (fun c_5 => ?_)
      · refine wp_iconst (v := 0) dX7_findCouncil_314 (by decide) ?_
        refine wp_istore (lv' := [(5, .int 0), (0, .ref 100), (4, .int (nI n))]) dX7_findCouncil_315 (by decide) rfl ?_
        refine wp_aload_n dX7_findCouncil_317 rfl 1 rfl ?_
        refine wp_dup dX7_findCouncil_318 rfl ?_
        refine wv_getL (lir (vI h 142) (vL h 143) (vL h 144) lo hi n) dX7_findCouncil_319 flX7_232 rfl rfl (by (try simp only [liv_sI, liv_sL]); rw [hA.1]; exact hW.1) h48 ?_
        refine wp_iload dX7_findCouncil_322 0 rfl ?_
        refine wp_if_eq (tgt := 339) dX7_findCouncil_324 (by decide) (fun _ => ?_) (fun c_6 => absurd (by decide) c_6)
        refine wp_lconst (v := 0) dX7_findCouncil_339 rfl ?_
        refine wp_lor dX7_findCouncil_340 ?_
        refine wp_putL dX7_findCouncil_341 flX7_232 (Or.inl rfl) rfl rfl (by (try simp only [liv_sI, liv_sL]); rw [hA.1]; exact hW.1) ?_
        refine wp_iinc (q := 2) (x := nI n) (v := nI (n + 1)) (lv' := [(4, .int (nI (n + 1))), (5, .int 0), (0, .ref 100)]) dX7_findCouncil_344 rfl (nI_1 _) (by decide) rfl ?_
        refine wp_goto (tgt := 264) dX7_findCouncil_347 (by decide) ?_
        refine wp_sub [2, 0] rfl ?_
        exact ih (n + 1) (by omega) _ (AG_46 (by omega) hA) h45 (by rw [vLj (by decide)]; exact h46) (by rw [vLj (by decide)]; exact h47) (by rw [vLs, lir_n (fun y => y.elim c_3 (fun x => absurd x (Int64.not_lt.mpr c_5)))])
      · refine wp_iconst (v := 1) dX7_findCouncil_310 (by decide) ?_
        refine wp_goto (tgt := 315) dX7_findCouncil_311 (by decide) ?_
        refine wp_istore (lv' := [(5, .int 1), (0, .ref 100), (4, .int (nI n))]) dX7_findCouncil_315 (by decide) rfl ?_
        refine wp_aload_n dX7_findCouncil_317 rfl 1 rfl ?_
        refine wp_dup dX7_findCouncil_318 rfl ?_
        refine wv_getL (lir (vI h 142) (vL h 143) (vL h 144) lo hi n) dX7_findCouncil_319 flX7_232 rfl rfl (by (try simp only [liv_sI, liv_sL]); rw [hA.1]; exact hW.1) h48 ?_
        refine wp_iload dX7_findCouncil_322 0 rfl ?_
        refine wp_if_eq (tgt := 339) dX7_findCouncil_324 (by decide) (fun c_7 => absurd c_7 (by decide)) (fun _ => ?_)
        refine wp_lconst (v := 1) dX7_findCouncil_327 rfl ?_
        refine wp_aload_n dX7_findCouncil_328 rfl 1 rfl ?_
        refine wp_getP (b := 142) dX7_findCouncil_329 flX7_114 rfl rfl (by (try simp only [liv_sI, liv_sL]); rw [hA.1]; exact hW.1) (by (try simp only [vP_sI, vP_sL]); rw [hA.2.1]; exact (hW.2 41 rfl).2) ?_
        refine wp_iload dX7_findCouncil_332 2 rfl ?_
        refine wv_iald n (vI h 142 n) dX7_findCouncil_334 rfl (by (try simp only [liv_sI, liv_sL]); rw [hA.1]; exact (hW.2 41 rfl).1) rfl (by show n < 10; omega) (by rw [hA.2.2.1 142 (by decide)]) ?_
        refine wp_lshl dX7_findCouncil_335 rfl ?_
        refine wp_pc (pc' := 336) rfl ?_
        refine wp_goto (tgt := 340) dX7_findCouncil_336 (by decide) ?_
        refine wp_lor dX7_findCouncil_340 ?_
        refine wp_putL dX7_findCouncil_341 flX7_232 (Or.inl rfl) rfl rfl (by (try simp only [liv_sI, liv_sL]); rw [hA.1]; exact hW.1) ?_
        refine wp_iinc (q := 2) (x := nI n) (v := nI (n + 1)) (lv' := [(4, .int (nI (n + 1))), (5, .int 1), (0, .ref 100)]) dX7_findCouncil_344 rfl (nI_1 _) (by decide) rfl ?_
        refine wp_goto (tgt := 264) dX7_findCouncil_347 (by decide) ?_
        refine wp_sub [2, 0] rfl ?_
        exact ih (n + 1) (by omega) _ (AG_46 (by omega) hA) h45 (by rw [vLj (by decide)]; exact h46) (by rw [vLj (by decide)]; exact h47) (by rw [vLs, lir_y (Or.inr (Int64.not_le.mp c_5))])
set_option maxRecDepth 100000 in
set_option maxHeartbeats 4000000 in
theorem lf_no {g : GG} {h h' : HP} {Post : Option Value → HP → Prop} (s : Nat) (hs1 : 1 ≤ s) (hs : s ≤ 10) (hW : MW h) (hc40 : vI h 100 40 = nI s) (hA : AG h h') (h45 : vI h' 100 45 = 0) (hp : Post (some (.int 0)) h') : WP g mX7_findCouncil 264 [(0, .ref 100), (4, .int (nI 0))] [] h' 0 0 Post := by
  refine wp_iload dX7_findCouncil_264 1 rfl ?_
  refine wp_aload_n dX7_findCouncil_266 rfl 0 rfl ?_
  refine wv_getI (nI s) dX7_findCouncil_267 flX7_212 rfl rfl (by (try simp only [liv_sI, liv_sL]); rw [hA.1]; exact hW.1) (by rw [hA.2.2.2.1 40 (by decide)]; exact hc40) ?_
  refine wp_icmp_ge (tgt := 350) dX7_findCouncil_270 (by decide) (fun c_1 => absurd c_1 (nI_ge (a := 0) (b := s) (by omega) (by omega))) (fun _ => ?_)
  refine wp_aload_n dX7_findCouncil_273 rfl 0 rfl ?_
  refine wv_getI (0) dX7_findCouncil_274 flX7_223 rfl rfl (by (try simp only [liv_sI, liv_sL]); rw [hA.1]; exact hW.1) h45 ?_
  refine wp_if_le (tgt := 350) dX7_findCouncil_277 (by decide) (fun _ => ?_) (fun c_2 => absurd (by decide) c_2)
  refine wp_aload_n dX7_findCouncil_350 rfl 0 rfl ?_
  refine wv_getI (0) dX7_findCouncil_351 flX7_223 rfl rfl (by (try simp only [liv_sI, liv_sL]); rw [hA.1]; exact hW.1) h45 ?_
  refine wp_if_le (tgt := 361) dX7_findCouncil_354 (by decide) (fun _ => ?_) (fun c_3 => absurd (by decide) c_3)
  refine wp_iconst (v := 0) dX7_findCouncil_361 (by decide) ?_
  refine wp_zret dX7_findCouncil_362 rfl (by decide) (by decide) rfl ?_
  exact hp
/-- what findCouncil leaves: the points, and what the sweep over them gives -/
def FCq (h : HP) (s ff : Nat) (h' : HP) (P : Nat → Int64) (r : Nat × Int32 × Int64 × Int64) : Prop := AG h h' ∧ Pts (vL h 143) (vL h 144) s P (2 * s) ∧ r = swp P (fun t => hvN (vL h 143) (vL h 144) t s) (nI (s - ff)) (vL h 100 46) (vL h 100 47) (2 * s - 1) ∧ vI h' 100 45 = nI r.1 ∧ vL h' 100 46 = r.2.2.1 ∧ vL h' 100 47 = r.2.2.2 ∧ vL h' 100 48 = (if r.1 = 0 then 0 else lir (vI h 142) (vL h 143) (vL h 144) r.2.2.1 r.2.2.2 s)
set_option maxRecDepth 100000 in
set_option maxHeartbeats 4000000 in
theorem cm_findCouncil {g : GG} {h : HP} {Post : Option Value → HP → Prop} (s ff : Nat) (hs1 : 1 ≤ s) (hs : s ≤ 10) (hW : MW h) (hc40 : vI h 100 40 = nI s) (hff : ff < s) (h46 : True) (hp1 : ∀ h' P r, FCq h s ff h' P r → ¬ r.1 = 0 → Post (some (.int 1)) h') (hp0 : ∀ h' P r, FCq h s ff h' P r → r.1 = 0 → Post (some (.int 0)) h') : CT g mX7_findCouncil [.ref 100, .int (nI ff)] h Post := by
  show WP g mX7_findCouncil 0 [(0, .ref 100), (1, .int (nI ff))] [] h 0 0 Post
  have hout : ∀ h1, AG h h1 → Pts (vL h 143) (vL h 144) s (vL h1 145) (2 * s) → vL h1 100 46 = vL h 100 46 → vL h1 100 47 = vL h 100 47 → WP g mX7_findCouncil 109 [(0, .ref 100), (1, .int (nI ff)), (2, .int (nI (2 * s)))] [] h1 0 0 Post := by
    intro h1 hA hP e46 e47
    have hn2 : ∀ h2, AG h h2 → vL h2 145 = vL h1 145 → vI h2 100 45 = nI (swp (vL h1 145) (fun t => hvN (vL h 143) (vL h 144) t s) (nI (s - ff)) (vL h 100 46) (vL h 100 47) (2 * s - 1)).1 → vL h2 100 46 = (swp (vL h1 145) (fun t => hvN (vL h 143) (vL h 144) t s) (nI (s - ff)) (vL h 100 46) (vL h 100 47) (2 * s - 1)).2.2.1 → vL h2 100 47 = (swp (vL h1 145) (fun t => hvN (vL h 143) (vL h 144) t s) (nI (s - ff)) (vL h 100 46) (vL h 100 47) (2 * s - 1)).2.2.2 → WP g mX7_findCouncil 256 [(0, .ref 100), (1, .int (nI ff)), (2, .int (nI (2 * s)))] [] h2 0 0 Post := by
      intro h2 hA2 _ k45 k46 k47
      have hle := swp_le (vL h1 145) (fun t => hvN (vL h 143) (vL h 144) t s) (nI (s - ff)) (vL h 100 46) (vL h 100 47) (2 * s - 1)
      generalize hr : swp (vL h1 145) (fun t => hvN (vL h 143) (vL h 144) t s) (nI (s - ff)) (vL h 100 46) (vL h 100 47) (2 * s - 1) = r at k45 k46 k47 hle
      have hcont : WP g mX7_findCouncil 264 [(0, .ref 100), (4, .int (nI 0))] [] (sL h2 100 48 0) 0 0 Post := by
        by_cases hz : r.1 = 0
        · exact lf_no s hs1 hs hW hc40 (AG_46 (by omega) hA2) (by rw [vI_sL, k45, hz]; rfl) (hp0 _ (vL h1 145) r ⟨AG_46 (by omega) hA2, hP, hr.symm, k45, by rw [vLj (by decide)]; exact k46, by rw [vLj (by decide)]; exact k47, by rw [if_pos hz]; exact vLs⟩ hz)
        · exact lf_lir s hs hW hc40 r.1 (by omega) r.2.2.1 r.2.2.2 (by omega) (fun h' a b c d e => hp1 h' (vL h1 145) r ⟨a, hP, hr.symm, b, c, d, by rw [if_neg hz]; exact e⟩ hz) s 0 (by omega) _ (AG_46 (by omega) hA2) k45 (by rw [vLj (by decide)]; exact k46) (by rw [vLj (by decide)]; exact k47) vLs
      refine wp_aload_n dX7_findCouncil_256 rfl 0 rfl ?_
      refine wp_lconst (v := 0) dX7_findCouncil_257 rfl ?_
      refine wp_putL dX7_findCouncil_258 flX7_232 (Or.inl rfl) rfl rfl (by (try simp only [liv_sI, liv_sL]); rw [hA2.1]; exact hW.1) ?_
      refine wp_iconst (v := 0) dX7_findCouncil_261 (by decide) ?_
      refine wp_istore (lv' := [(4, .int 0), (0, .ref 100), (1, .int (nI ff)), (2, .int (nI (2 * s)))]) dX7_findCouncil_262 (by decide) rfl ?_
      refine wp_sub [1, 0] rfl ?_
      exact hcont
    refine wp_aload_n dX7_findCouncil_109 rfl 0 rfl ?_
    refine wp_iconst (v := 0) dX7_findCouncil_110 (by decide) ?_
    refine wp_putI dX7_findCouncil_111 flX7_223 (Or.inl rfl) rfl rfl rfl rfl (by (try simp only [liv_sI, liv_sL]); rw [hA.1]; exact hW.1) ?_
    refine wp_iconst (v := 0) dX7_findCouncil_114 (by decide) ?_
    refine wp_istore_n (lv' := [(3, .int 0), (0, .ref 100), (1, .int (nI ff)), (2, .int (nI (2 * s)))]) dX7_findCouncil_115 rfl (by decide) rfl ?_
    refine wp_iconst (v := 0) dX7_findCouncil_116 (by decide) ?_
    refine wp_istore (lv' := [(4, .int 0), (3, .int 0), (0, .ref 100), (1, .int (nI ff)), (2, .int (nI (2 * s)))]) dX7_findCouncil_117 (by decide) rfl ?_
    refine wp_sub [2, 3, 4, 1, 0] rfl ?_
    exact lf_swp s ff hs1 hs hW hc40 hff (vL h1 145) _ rfl _ rfl (vL h 100 46) (vL h 100 47) hn2 (2 * s - 1) 0 (by omega) _ (AG_45 hA) rfl vIs e46 e47
  refine wp_iconst (v := 0) dX7_findCouncil_0 (by decide) ?_
  refine wp_istore_n (lv' := [(2, .int 0), (0, .ref 100), (1, .int (nI ff))]) dX7_findCouncil_1 rfl (by decide) rfl ?_
  refine wp_iconst (v := 0) dX7_findCouncil_2 (by decide) ?_
  refine wp_istore_n (lv' := [(3, .int 0), (2, .int 0), (0, .ref 100), (1, .int (nI ff))]) dX7_findCouncil_3 rfl (by decide) rfl ?_
  refine wp_sub [2, 3, 1, 0] rfl ?_
  exact lf_out s ff hs1 hs hW hc40 (fun h1 a b e => hout h1 a b (by rw [e]) (by rw [e])) (2 * s) 0 (by omega) h (AG_rf h) Pts_0 rfl
