/-! the law -/
def mLw (nn : String) (b L : Nat) (xs : Nat → Int32) : MD := (RL, cL_law, 4, some .boolean, nn, room_1, fun s => va_X b L xs s s.heap ∧ b < s.heap.size)
section
variable {g : GG} {M : MD} {pc : Nat} {lv : List (Nat × Value)} {st : List Value} {h : HP} {cs ss : Nat} {Post : Option Value → HP → Prop}
theorem sc_at {ad : Nat → Nat} {H : Heap} (hR : Rp g h ad H) (hl : liv h 50 = true) : ad 50 = g.2.2 15 ∧ g.2.2 15 < g.1 := (hR.1 50 hl).2 (by decide)
theorem wp_slen {b L : Nat} {xs : Nat → Int32} (hb : g.2.2 15 = b) (hM : ∀ s, mX M s → va_X b L xs s s.heap ∧ b < s.heap.size) (d : decode (mCode M) pc = .ok (.arraylength, 1)) (kk : WP g M (pc + 1) lv (.int (Int32.ofNat L) :: st) h cs ss Post) : WP g M pc lv (.ref 50 :: st) h cs ss Post := by
  intro p l e s m args below meth c H locs ls ad h0 ad0 hC hR hS hl' ho hq hE
  have hA := sc_at hR (fa1 ho)
  have hX := hM s hC.2.2.2.2.2.2.2.2.1
  show W p l e (mRm M) s m args below meth c H locs cs ss _ (F0 m pc ls (Value.ref (ad 50) :: st.map (rn ad)))
  rw [hA.1, hb]
  exact va_slen (A := BA g) hC.1 hC.2.1 hX.1 hX.2 (fun z => by have z : g.1 ≤ b := z; rw [← hb] at z; exact absurd hA.2 (Nat.not_lt.mpr z)) hS d (kk p l e s m args below meth c H locs ls ad h0 ad0 hC hR hS hl' (fac trivial (fat ho)) hq hE)
theorem wp_sld {b L : Nat} {xs : Nat → Int32} {i : Int32} (j : Nat) (hb : g.2.2 15 = b) (hM : ∀ s, mX M s → va_X b L xs s s.heap ∧ b < s.heap.size) (d : decode (mCode M) pc = .ok (.iaload, 1)) (hi : i = nI j) (hj : j < L) (hL : L ≤ 1000) (kk : WP g M (pc + 1) lv (.int (xs j) :: st) h cs ss Post) : WP g M pc lv (.int i :: .ref 50 :: st) h cs ss Post := by
  intro p l e s m args below meth c H locs ls ad h0 ad0 hC hR hS hl' ho hq hE
  have hA := sc_at hR (fa1 (fat ho))
  have hX := hM s hC.2.2.2.2.2.2.2.2.1
  show W p l e (mRm M) s m args below meth c H locs cs ss _ (F0 m pc ls (Value.int i :: Value.ref (ad 50) :: st.map (rn ad)))
  rw [hA.1, hb]
  refine va_sld (A := BA g) hC.1 hC.2.1 hX.1 hX.2 (fun z => by have z : g.1 ≤ b := z; rw [← hb] at z; exact absurd hA.2 (Nat.not_lt.mpr z)) hS (ix_in hi hj hL) d ?_
  rw [ix_cl hi hj hL]
  exact kk p l e s m args below meth c H locs ls ad h0 ad0 hC hR hS hl' (fac trivial (fat (fat ho))) hq hE
end
theorem mLw_X (nn : String) (b L : Nat) (xs : Nat → Int32) : ∀ s, mX (mLw nn b L xs) s → va_X b L xs s s.heap ∧ b < s.heap.size := fun _ h => h
theorem ct_post {g : GG} {M : MD} {av : List Value} {h : HP} {Post Post' : Option Value → HP → Prop} (k : CT g M av h Post') (hp : ∀ v h', Post' v h' → Post v h') : CT g M av h Post := wp_post hp k
theorem nI_6 (n : Nat) : nI (6 * n) + Int32.ofInt 6 = nI (6 * (n + 1)) := by
  rw [show Int32.ofInt 6 = nI 6 from rfl, wN_add rfl rfl]; rfl
set_option maxRecDepth 100000 in
set_option maxHeartbeats 4000000 in
theorem law_go {g : GG} {Post : Option Value → HP → Prop} {nn : String} {b L : Nat} {xs : Nat → Int32} (hb : g.2.2 15 = b) (hL : L ≤ 384) {n : Nat} {h : HP} {nm nl ns ne nk : Nat} {fr to : Nat → Nat} {E : Nat → Nat → Prop} (hI : IV n h nm nl ns ne nk fr to E) {cs ss : Nat} (h6 : 6 * n + 6 ≤ L) (hcs : cs + 3 ≤ 600000) (hss : ss + 30 ≤ 7302250) (hback : ∀ h2 cs2 ss2, Inv (n + 1) h2 → cs2 ≤ cs + 3 → ss2 ≤ ss + 30 → WP g (mLw nn b L xs) 1128 [(0, .ref 50), (1, .ref 1), (2, .ref 100), (3, .int (nI (6 * n)))] [] h2 cs2 ss2 Post) : WP g (mLw nn b L xs) 160 [(0, .ref 50), (1, .ref 1), (2, .ref 100), (3, .int (nI (6 * n)))] [] h cs ss Post := by
  refine wp_aload_n dL_law_160 rfl 1 rfl ?_
  refine wp_aload_n dL_law_161 rfl 0 rfl ?_
  refine wp_iload_n dL_law_162 rfl 3 rfl ?_
  refine wp_iconst (v := 1) dL_law_163 (by decide) ?_
  refine wv_iadd (nI ((6 * n) + 1)) (wN_add rfl rfl) dL_law_164 ?_
  refine wp_sld ((6 * n) + 1) hb (mLw_X nn b L xs) dL_law_165 rfl (by omega) (by omega) ?_
  refine wp_callV mX6_go 1 [.int (xs ((6 * n) + 1))] [] (c := 6) dL_law_166 iX6_go (fun _ => trivial) mlL_13 imX6_go seX6_go (by decide) rfl rfl ⟨(Nat.le_of_ble_eq_true rfl), (Nat.le_of_ble_eq_true rfl)⟩ rfl rfl (Nat.le_of_ble_eq_true rfl) (Nat.le_of_ble_eq_true rfl) (by show cs + 0 ≤ 600000; omega) (by show ss + 0 ≤ 7302250; omega) ?_
  refine ct_post (op_go hI (by omega) (xs ((6 * n) + 1))) (fun v h1 hv => ?_)
  obtain ⟨r, rfl, hc⟩ := hv
  show WP g (mLw nn b L xs) 169 [(0, .ref 50), (1, .ref 1), (2, .ref 100), (3, .int (nI (6 * n)))] [.long r] _ (cs + 0) (ss + 0) _
  refine wp_aload_n dL_law_169 rfl 2 rfl ?_
  refine wp_aload_n dL_law_170 rfl 0 rfl ?_
  refine wp_iload_n dL_law_171 rfl 3 rfl ?_
  refine wp_iconst (v := 1) dL_law_172 (by decide) ?_
  refine wv_iadd (nI ((6 * n) + 1)) (wN_add rfl rfl) dL_law_173 ?_
  refine wp_sld ((6 * n) + 1) hb (mLw_X nn b L xs) dL_law_174 rfl (by omega) (by omega) ?_
  refine wp_callV mX7_go 100 [.int (xs ((6 * n) + 1))] [.long r] (c := 7) dL_law_175 iX7_go (fun _ => trivial) mlL_17 imX7_go seX7_go (by decide) rfl rfl ⟨(Nat.le_of_ble_eq_true rfl), (Nat.le_of_ble_eq_true rfl)⟩ rfl rfl (Nat.le_of_ble_eq_true rfl) (Nat.le_of_ble_eq_true rfl) (by show cs + 0 + 0 ≤ 600000; omega) (by show ss + 0 + 0 ≤ 7302250; omega) ?_
  refine ct_post hc (fun v h2 hv => ?_)
  obtain ⟨rfl, hI2⟩ := hv
  show WP g (mLw nn b L xs) 178 [(0, .ref 50), (1, .ref 1), (2, .ref 100), (3, .int (nI (6 * n)))] [.long r, .long r] _ (cs + 0 + 0) (ss + 0 + 0) _
  refine wil_eq (tgt := 1128) (Int64.toInt r) (Int64.toInt r) rfl rfl dL_law_178 dL_law_179 (by decide) (fun _ => ?_) (fun c_1 => absurd rfl c_1)
  refine wp_pc (pc' := 1128) rfl ?_
  refine wp_sub [0, 1, 2, 3] rfl ?_
  exact hback h2 _ _ hI2 (by show cs + 0 + 0 ≤ cs + 3; omega) (by show ss + 0 + 0 ≤ ss + 30; omega)
set_option maxRecDepth 100000 in
set_option maxHeartbeats 4000000 in
theorem law_member {g : GG} {Post : Option Value → HP → Prop} {nn : String} {b L : Nat} {xs : Nat → Int32} (hb : g.2.2 15 = b) (hL : L ≤ 384) {n : Nat} {h : HP} {nm nl ns ne nk : Nat} {fr to : Nat → Nat} {E : Nat → Nat → Prop} (hI : IV n h nm nl ns ne nk fr to E) {cs ss : Nat} (h6 : 6 * n + 6 ≤ L) (hcs : cs + 3 ≤ 600000) (hss : ss + 30 ≤ 7302250) (hback : ∀ h2 cs2 ss2, Inv (n + 1) h2 → cs2 ≤ cs + 3 → ss2 ≤ ss + 30 → WP g (mLw nn b L xs) 1128 [(0, .ref 50), (1, .ref 1), (2, .ref 100), (3, .int (nI (6 * n)))] [] h2 cs2 ss2 Post) : WP g (mLw nn b L xs) 184 [(0, .ref 50), (1, .ref 1), (2, .ref 100), (3, .int (nI (6 * n)))] [] h cs ss Post := by
  refine wp_aload_n dL_law_184 rfl 1 rfl ?_
  refine wp_aload_n dL_law_185 rfl 0 rfl ?_
  refine wp_iload_n dL_law_186 rfl 3 rfl ?_
  refine wp_iconst (v := 1) dL_law_187 (by decide) ?_
  refine wv_iadd (nI ((6 * n) + 1)) (wN_add rfl rfl) dL_law_188 ?_
  refine wp_sld ((6 * n) + 1) hb (mLw_X nn b L xs) dL_law_189 rfl (by omega) (by omega) ?_
  refine wp_aload_n dL_law_190 rfl 0 rfl ?_
  refine wp_iload_n dL_law_191 rfl 3 rfl ?_
  refine wp_iconst (v := 2) dL_law_192 (by decide) ?_
  refine wv_iadd (nI ((6 * n) + 2)) (wN_add rfl rfl) dL_law_193 ?_
  refine wp_sld ((6 * n) + 2) hb (mLw_X nn b L xs) dL_law_194 rfl (by omega) (by omega) ?_
  refine wp_aload_n dL_law_195 rfl 0 rfl ?_
  refine wp_iload_n dL_law_196 rfl 3 rfl ?_
  refine wp_iconst (v := 3) dL_law_197 (by decide) ?_
  refine wv_iadd (nI ((6 * n) + 3)) (wN_add rfl rfl) dL_law_198 ?_
  refine wp_pc (pc' := 199) rfl ?_
  refine wp_sld ((6 * n) + 3) hb (mLw_X nn b L xs) dL_law_199 rfl (by omega) (by omega) ?_
  refine wp_callV mX6_member 1 [.int (xs ((6 * n) + 1)), .int (xs ((6 * n) + 2)), .int (xs ((6 * n) + 3))] [] (c := 6) dL_law_200 iX6_member (fun _ => trivial) mlL_18 imX6_member seX6_member (by decide) rfl rfl ⟨(Nat.le_of_ble_eq_true rfl), (Nat.le_of_ble_eq_true rfl)⟩ rfl rfl (Nat.le_of_ble_eq_true rfl) (Nat.le_of_ble_eq_true rfl) (by show cs + 3 ≤ 600000; omega) (by show ss + 30 ≤ 7302250; omega) ?_
  refine ct_post (op_member hI (by omega) (xs ((6 * n) + 1)) (xs ((6 * n) + 2)) (xs ((6 * n) + 3))) (fun v h1 hv => ?_)
  obtain ⟨r, rfl, hc⟩ := hv
  show WP g (mLw nn b L xs) 203 [(0, .ref 50), (1, .ref 1), (2, .ref 100), (3, .int (nI (6 * n)))] [.long r] _ (cs + 3) (ss + 30) _
  refine wp_aload_n dL_law_203 rfl 2 rfl ?_
  refine wp_aload_n dL_law_204 rfl 0 rfl ?_
  refine wp_iload_n dL_law_205 rfl 3 rfl ?_
  refine wp_iconst (v := 1) dL_law_206 (by decide) ?_
  refine wv_iadd (nI ((6 * n) + 1)) (wN_add rfl rfl) dL_law_207 ?_
  refine wp_sld ((6 * n) + 1) hb (mLw_X nn b L xs) dL_law_208 rfl (by omega) (by omega) ?_
  refine wp_aload_n dL_law_209 rfl 0 rfl ?_
  refine wp_iload_n dL_law_210 rfl 3 rfl ?_
  refine wp_iconst (v := 2) dL_law_211 (by decide) ?_
  refine wv_iadd (nI ((6 * n) + 2)) (wN_add rfl rfl) dL_law_212 ?_
  refine wp_sld ((6 * n) + 2) hb (mLw_X nn b L xs) dL_law_213 rfl (by omega) (by omega) ?_
  refine wp_aload_n dL_law_214 rfl 0 rfl ?_
  refine wp_iload_n dL_law_215 rfl 3 rfl ?_
  refine wp_pc (pc' := 216) rfl ?_
  refine wp_iconst (v := 3) dL_law_216 (by decide) ?_
  refine wv_iadd (nI ((6 * n) + 3)) (wN_add rfl rfl) dL_law_217 ?_
  refine wp_sld ((6 * n) + 3) hb (mLw_X nn b L xs) dL_law_218 rfl (by omega) (by omega) ?_
  refine wp_callV mX7_member 100 [.int (xs ((6 * n) + 1)), .int (xs ((6 * n) + 2)), .int (xs ((6 * n) + 3))] [.long r] (c := 7) dL_law_219 iX7_member (fun _ => trivial) mlL_22 imX7_member seX7_member (by decide) rfl rfl ⟨(Nat.le_of_ble_eq_true rfl), (Nat.le_of_ble_eq_true rfl)⟩ rfl rfl (Nat.le_of_ble_eq_true rfl) (Nat.le_of_ble_eq_true rfl) (by show cs + 3 + 0 ≤ 600000; omega) (by show ss + 30 + 0 ≤ 7302250; omega) ?_
  refine ct_post hc (fun v h2 hv => ?_)
  obtain ⟨rfl, hI2⟩ := hv
  show WP g (mLw nn b L xs) 222 [(0, .ref 50), (1, .ref 1), (2, .ref 100), (3, .int (nI (6 * n)))] [.long r, .long r] _ (cs + 3 + 0) (ss + 30 + 0) _
  refine wil_eq (tgt := 1128) (Int64.toInt r) (Int64.toInt r) rfl rfl dL_law_222 dL_law_223 (by decide) (fun _ => ?_) (fun c_1 => absurd rfl c_1)
  refine wp_sub [0, 1, 2, 3] rfl ?_
  exact hback h2 _ _ hI2 (by show cs + 3 + 0 ≤ cs + 3; omega) (by show ss + 30 + 0 ≤ ss + 30; omega)
set_option maxRecDepth 100000 in
set_option maxHeartbeats 4000000 in
theorem law_rate {g : GG} {Post : Option Value → HP → Prop} {nn : String} {b L : Nat} {xs : Nat → Int32} (hb : g.2.2 15 = b) (hL : L ≤ 384) {n : Nat} {h : HP} {nm nl ns ne nk : Nat} {fr to : Nat → Nat} {E : Nat → Nat → Prop} (hI : IV n h nm nl ns ne nk fr to E) {cs ss : Nat} (h6 : 6 * n + 6 ≤ L) (hcs : cs + 3 ≤ 600000) (hss : ss + 30 ≤ 7302250) (hback : ∀ h2 cs2 ss2, Inv (n + 1) h2 → cs2 ≤ cs + 3 → ss2 ≤ ss + 30 → WP g (mLw nn b L xs) 1128 [(0, .ref 50), (1, .ref 1), (2, .ref 100), (3, .int (nI (6 * n)))] [] h2 cs2 ss2 Post) : WP g (mLw nn b L xs) 228 [(0, .ref 50), (1, .ref 1), (2, .ref 100), (3, .int (nI (6 * n)))] [] h cs ss Post := by
  refine wp_aload_n dL_law_228 rfl 1 rfl ?_
  refine wp_aload_n dL_law_229 rfl 0 rfl ?_
  refine wp_iload_n dL_law_230 rfl 3 rfl ?_
  refine wp_iconst (v := 1) dL_law_231 (by decide) ?_
  refine wv_iadd (nI ((6 * n) + 1)) (wN_add rfl rfl) dL_law_232 ?_
  refine wp_sld ((6 * n) + 1) hb (mLw_X nn b L xs) dL_law_233 rfl (by omega) (by omega) ?_
  refine wp_aload_n dL_law_234 rfl 0 rfl ?_
  refine wp_iload_n dL_law_235 rfl 3 rfl ?_
  refine wp_iconst (v := 2) dL_law_236 (by decide) ?_
  refine wv_iadd (nI ((6 * n) + 2)) (wN_add rfl rfl) dL_law_237 ?_
  refine wp_sld ((6 * n) + 2) hb (mLw_X nn b L xs) dL_law_238 rfl (by omega) (by omega) ?_
  refine wp_aload_n dL_law_239 rfl 0 rfl ?_
  refine wp_iload_n dL_law_240 rfl 3 rfl ?_
  refine wp_iconst (v := 3) dL_law_241 (by decide) ?_
  refine wv_iadd (nI ((6 * n) + 3)) (wN_add rfl rfl) dL_law_242 ?_
  refine wp_pc (pc' := 243) rfl ?_
  refine wp_sld ((6 * n) + 3) hb (mLw_X nn b L xs) dL_law_243 rfl (by omega) (by omega) ?_
  refine wp_callV mX6_rate 1 [.int (xs ((6 * n) + 1)), .int (xs ((6 * n) + 2)), .int (xs ((6 * n) + 3))] [] (c := 6) dL_law_244 iX6_rate (fun _ => trivial) mlL_23 imX6_rate seX6_rate (by decide) rfl rfl ⟨(Nat.le_of_ble_eq_true rfl), (Nat.le_of_ble_eq_true rfl)⟩ rfl rfl (Nat.le_of_ble_eq_true rfl) (Nat.le_of_ble_eq_true rfl) (by show cs + 0 ≤ 600000; omega) (by show ss + 0 ≤ 7302250; omega) ?_
  refine ct_post (op_rate hI (by omega) (xs ((6 * n) + 1)) (xs ((6 * n) + 2)) (xs ((6 * n) + 3))) (fun v h1 hv => ?_)
  obtain ⟨r, rfl, hc⟩ := hv
  show WP g (mLw nn b L xs) 247 [(0, .ref 50), (1, .ref 1), (2, .ref 100), (3, .int (nI (6 * n)))] [.long r] _ (cs + 0) (ss + 0) _
  refine wp_aload_n dL_law_247 rfl 2 rfl ?_
  refine wp_aload_n dL_law_248 rfl 0 rfl ?_
  refine wp_iload_n dL_law_249 rfl 3 rfl ?_
  refine wp_iconst (v := 1) dL_law_250 (by decide) ?_
  refine wv_iadd (nI ((6 * n) + 1)) (wN_add rfl rfl) dL_law_251 ?_
  refine wp_sld ((6 * n) + 1) hb (mLw_X nn b L xs) dL_law_252 rfl (by omega) (by omega) ?_
  refine wp_aload_n dL_law_253 rfl 0 rfl ?_
  refine wp_iload_n dL_law_254 rfl 3 rfl ?_
  refine wp_iconst (v := 2) dL_law_255 (by decide) ?_
  refine wv_iadd (nI ((6 * n) + 2)) (wN_add rfl rfl) dL_law_256 ?_
  refine wp_sld ((6 * n) + 2) hb (mLw_X nn b L xs) dL_law_257 rfl (by omega) (by omega) ?_
  refine wp_aload_n dL_law_258 rfl 0 rfl ?_
  refine wp_iload_n dL_law_259 rfl 3 rfl ?_
  refine wp_pc (pc' := 260) rfl ?_
  refine wp_iconst (v := 3) dL_law_260 (by decide) ?_
  refine wv_iadd (nI ((6 * n) + 3)) (wN_add rfl rfl) dL_law_261 ?_
  refine wp_sld ((6 * n) + 3) hb (mLw_X nn b L xs) dL_law_262 rfl (by omega) (by omega) ?_
  refine wp_callV mX7_rate 100 [.int (xs ((6 * n) + 1)), .int (xs ((6 * n) + 2)), .int (xs ((6 * n) + 3))] [.long r] (c := 7) dL_law_263 iX7_rate (fun _ => trivial) mlL_26 imX7_rate seX7_rate (by decide) rfl rfl ⟨(Nat.le_of_ble_eq_true rfl), (Nat.le_of_ble_eq_true rfl)⟩ rfl rfl (Nat.le_of_ble_eq_true rfl) (Nat.le_of_ble_eq_true rfl) (by show cs + 0 + 0 ≤ 600000; omega) (by show ss + 0 + 0 ≤ 7302250; omega) ?_
  refine ct_post hc (fun v h2 hv => ?_)
  obtain ⟨rfl, hI2⟩ := hv
  show WP g (mLw nn b L xs) 266 [(0, .ref 50), (1, .ref 1), (2, .ref 100), (3, .int (nI (6 * n)))] [.long r, .long r] _ (cs + 0 + 0) (ss + 0 + 0) _
  refine wil_eq (tgt := 1128) (Int64.toInt r) (Int64.toInt r) rfl rfl dL_law_266 dL_law_267 (by decide) (fun _ => ?_) (fun c_1 => absurd rfl c_1)
  refine wp_sub [0, 1, 2, 3] rfl ?_
  exact hback h2 _ _ hI2 (by show cs + 0 + 0 ≤ cs + 3; omega) (by show ss + 0 + 0 ≤ ss + 30; omega)
set_option maxRecDepth 100000 in
set_option maxHeartbeats 4000000 in
theorem law_lie {g : GG} {Post : Option Value → HP → Prop} {nn : String} {b L : Nat} {xs : Nat → Int32} (hb : g.2.2 15 = b) (hL : L ≤ 384) {n : Nat} {h : HP} {nm nl ns ne nk : Nat} {fr to : Nat → Nat} {E : Nat → Nat → Prop} (hI : IV n h nm nl ns ne nk fr to E) {cs ss : Nat} (h6 : 6 * n + 6 ≤ L) (hcs : cs + 3 ≤ 600000) (hss : ss + 30 ≤ 7302250) (hback : ∀ h2 cs2 ss2, Inv (n + 1) h2 → cs2 ≤ cs + 3 → ss2 ≤ ss + 30 → WP g (mLw nn b L xs) 1128 [(0, .ref 50), (1, .ref 1), (2, .ref 100), (3, .int (nI (6 * n)))] [] h2 cs2 ss2 Post) : WP g (mLw nn b L xs) 272 [(0, .ref 50), (1, .ref 1), (2, .ref 100), (3, .int (nI (6 * n)))] [] h cs ss Post := by
  refine wp_aload_n dL_law_272 rfl 1 rfl ?_
  refine wp_aload_n dL_law_273 rfl 0 rfl ?_
  refine wp_iload_n dL_law_274 rfl 3 rfl ?_
  refine wp_iconst (v := 1) dL_law_275 (by decide) ?_
  refine wv_iadd (nI ((6 * n) + 1)) (wN_add rfl rfl) dL_law_276 ?_
  refine wp_sld ((6 * n) + 1) hb (mLw_X nn b L xs) dL_law_277 rfl (by omega) (by omega) ?_
  refine wp_aload_n dL_law_278 rfl 0 rfl ?_
  refine wp_iload_n dL_law_279 rfl 3 rfl ?_
  refine wp_iconst (v := 2) dL_law_280 (by decide) ?_
  refine wv_iadd (nI ((6 * n) + 2)) (wN_add rfl rfl) dL_law_281 ?_
  refine wp_sld ((6 * n) + 2) hb (mLw_X nn b L xs) dL_law_282 rfl (by omega) (by omega) ?_
  refine wp_i2l dL_law_283 ?_
  refine wp_bipush (v := 32) dL_law_284 (by decide) ?_
  refine wp_lshl dL_law_286 rfl ?_
  refine wp_aload_n dL_law_287 rfl 0 rfl ?_
  refine wp_pc (pc' := 288) rfl ?_
  refine wp_iload_n dL_law_288 rfl 3 rfl ?_
  refine wp_iconst (v := 3) dL_law_289 (by decide) ?_
  refine wv_iadd (nI ((6 * n) + 3)) (wN_add rfl rfl) dL_law_290 ?_
  refine wp_sld ((6 * n) + 3) hb (mLw_X nn b L xs) dL_law_291 rfl (by omega) (by omega) ?_
  refine wp_i2l dL_law_292 ?_
  refine wp_ldc2 dL_law_293 cnL_27 ?_
  refine wp_land dL_law_296 ?_
  refine wp_lor dL_law_297 ?_
  refine wp_aload_n dL_law_298 rfl 0 rfl ?_
  refine wp_iload_n dL_law_299 rfl 3 rfl ?_
  refine wp_iconst (v := 4) dL_law_300 (by decide) ?_
  refine wv_iadd (nI ((6 * n) + 4)) (wN_add rfl rfl) dL_law_301 ?_
  refine wp_sld ((6 * n) + 4) hb (mLw_X nn b L xs) dL_law_302 rfl (by omega) (by omega) ?_
  refine wp_i2l dL_law_303 ?_
  refine wp_bipush (v := 32) dL_law_304 (by decide) ?_
  refine wp_pc (pc' := 306) rfl ?_
  refine wp_lshl dL_law_306 rfl ?_
  refine wp_aload_n dL_law_307 rfl 0 rfl ?_
  refine wp_iload_n dL_law_308 rfl 3 rfl ?_
  refine wp_iconst (v := 5) dL_law_309 (by decide) ?_
  refine wv_iadd (nI ((6 * n) + 5)) (wN_add rfl rfl) dL_law_310 ?_
  refine wp_sld ((6 * n) + 5) hb (mLw_X nn b L xs) dL_law_311 rfl (by omega) (by omega) ?_
  refine wp_i2l dL_law_312 ?_
  refine wp_ldc2 dL_law_313 cnL_27 ?_
  refine wp_land dL_law_316 ?_
  refine wp_lor dL_law_317 ?_
  refine wp_callV mX6_lie 1 [.int (xs ((6 * n) + 1)), .long (((Int32.toInt64 (xs ((6 * n) + 2))) <<< ((32 : Int32).toInt64 &&& 63)) ||| ((Int32.toInt64 (xs ((6 * n) + 3))) &&& 4294967295)), .long (((Int32.toInt64 (xs ((6 * n) + 4))) <<< ((32 : Int32).toInt64 &&& 63)) ||| ((Int32.toInt64 (xs ((6 * n) + 5))) &&& 4294967295))] [] (c := 6) dL_law_318 iX6_lie (fun _ => trivial) mlL_29 imX6_lie seX6_lie (by decide) rfl rfl ⟨(Nat.le_of_ble_eq_true rfl), (Nat.le_of_ble_eq_true rfl)⟩ rfl rfl (Nat.le_of_ble_eq_true rfl) (Nat.le_of_ble_eq_true rfl) (by show cs + 0 ≤ 600000; omega) (by show ss + 0 ≤ 7302250; omega) ?_
  refine ct_post (op_lie hI (by omega) (xs ((6 * n) + 1)) (((Int32.toInt64 (xs ((6 * n) + 2))) <<< ((32 : Int32).toInt64 &&& 63)) ||| ((Int32.toInt64 (xs ((6 * n) + 3))) &&& 4294967295)) (((Int32.toInt64 (xs ((6 * n) + 4))) <<< ((32 : Int32).toInt64 &&& 63)) ||| ((Int32.toInt64 (xs ((6 * n) + 5))) &&& 4294967295))) (fun v h1 hv => ?_)
  obtain ⟨r, rfl, hc⟩ := hv
  show WP g (mLw nn b L xs) 321 [(0, .ref 50), (1, .ref 1), (2, .ref 100), (3, .int (nI (6 * n)))] [.long r] _ (cs + 0) (ss + 0) _
  refine wp_aload_n dL_law_321 rfl 2 rfl ?_
  refine wp_aload_n dL_law_322 rfl 0 rfl ?_
  refine wp_iload_n dL_law_323 rfl 3 rfl ?_
  refine wp_iconst (v := 1) dL_law_324 (by decide) ?_
  refine wp_pc (pc' := 325) rfl ?_
  refine wv_iadd (nI ((6 * n) + 1)) (wN_add rfl rfl) dL_law_325 ?_
  refine wp_sld ((6 * n) + 1) hb (mLw_X nn b L xs) dL_law_326 rfl (by omega) (by omega) ?_
  refine wp_aload_n dL_law_327 rfl 0 rfl ?_
  refine wp_iload_n dL_law_328 rfl 3 rfl ?_
  refine wp_iconst (v := 2) dL_law_329 (by decide) ?_
  refine wv_iadd (nI ((6 * n) + 2)) (wN_add rfl rfl) dL_law_330 ?_
  refine wp_sld ((6 * n) + 2) hb (mLw_X nn b L xs) dL_law_331 rfl (by omega) (by omega) ?_
  refine wp_i2l dL_law_332 ?_
  refine wp_bipush (v := 32) dL_law_333 (by decide) ?_
  refine wp_lshl dL_law_335 rfl ?_
  refine wp_aload_n dL_law_336 rfl 0 rfl ?_
  refine wp_iload_n dL_law_337 rfl 3 rfl ?_
  refine wp_iconst (v := 3) dL_law_338 (by decide) ?_
  refine wv_iadd (nI ((6 * n) + 3)) (wN_add rfl rfl) dL_law_339 ?_
  refine wp_sld ((6 * n) + 3) hb (mLw_X nn b L xs) dL_law_340 rfl (by omega) (by omega) ?_
  refine wp_pc (pc' := 341) rfl ?_
  refine wp_i2l dL_law_341 ?_
  refine wp_ldc2 dL_law_342 cnL_27 ?_
  refine wp_land dL_law_345 ?_
  refine wp_lor dL_law_346 ?_
  refine wp_aload_n dL_law_347 rfl 0 rfl ?_
  refine wp_iload_n dL_law_348 rfl 3 rfl ?_
  refine wp_iconst (v := 4) dL_law_349 (by decide) ?_
  refine wv_iadd (nI ((6 * n) + 4)) (wN_add rfl rfl) dL_law_350 ?_
  refine wp_sld ((6 * n) + 4) hb (mLw_X nn b L xs) dL_law_351 rfl (by omega) (by omega) ?_
  refine wp_i2l dL_law_352 ?_
  refine wp_bipush (v := 32) dL_law_353 (by decide) ?_
  refine wp_lshl dL_law_355 rfl ?_
  refine wp_aload_n dL_law_356 rfl 0 rfl ?_
  refine wp_iload_n dL_law_357 rfl 3 rfl ?_
  refine wp_iconst (v := 5) dL_law_358 (by decide) ?_
  refine wp_pc (pc' := 359) rfl ?_
  refine wv_iadd (nI ((6 * n) + 5)) (wN_add rfl rfl) dL_law_359 ?_
  refine wp_sld ((6 * n) + 5) hb (mLw_X nn b L xs) dL_law_360 rfl (by omega) (by omega) ?_
  refine wp_i2l dL_law_361 ?_
  refine wp_ldc2 dL_law_362 cnL_27 ?_
  refine wp_land dL_law_365 ?_
  refine wp_lor dL_law_366 ?_
  refine wp_callV mX7_lie 100 [.int (xs ((6 * n) + 1)), .long (((Int32.toInt64 (xs ((6 * n) + 2))) <<< ((32 : Int32).toInt64 &&& 63)) ||| ((Int32.toInt64 (xs ((6 * n) + 3))) &&& 4294967295)), .long (((Int32.toInt64 (xs ((6 * n) + 4))) <<< ((32 : Int32).toInt64 &&& 63)) ||| ((Int32.toInt64 (xs ((6 * n) + 5))) &&& 4294967295))] [.long r] (c := 7) dL_law_367 iX7_lie (fun _ => trivial) mlL_33 imX7_lie seX7_lie (by decide) rfl rfl ⟨(Nat.le_of_ble_eq_true rfl), (Nat.le_of_ble_eq_true rfl)⟩ rfl rfl (Nat.le_of_ble_eq_true rfl) (Nat.le_of_ble_eq_true rfl) (by show cs + 0 + 0 ≤ 600000; omega) (by show ss + 0 + 0 ≤ 7302250; omega) ?_
  refine ct_post hc (fun v h2 hv => ?_)
  obtain ⟨rfl, hI2⟩ := hv
  show WP g (mLw nn b L xs) 370 [(0, .ref 50), (1, .ref 1), (2, .ref 100), (3, .int (nI (6 * n)))] [.long r, .long r] _ (cs + 0 + 0) (ss + 0 + 0) _
  refine wil_eq (tgt := 1128) (Int64.toInt r) (Int64.toInt r) rfl rfl dL_law_370 dL_law_371 (by decide) (fun _ => ?_) (fun c_1 => absurd rfl c_1)
  refine wp_sub [0, 1, 2, 3] rfl ?_
  exact hback h2 _ _ hI2 (by show cs + 0 + 0 ≤ cs + 3; omega) (by show ss + 0 + 0 ≤ ss + 30; omega)
set_option maxRecDepth 100000 in
set_option maxHeartbeats 4000000 in
theorem law_rest {g : GG} {Post : Option Value → HP → Prop} {nn : String} {b L : Nat} {xs : Nat → Int32} (hb : g.2.2 15 = b) (hL : L ≤ 384) {n : Nat} {h : HP} {nm nl ns ne nk : Nat} {fr to : Nat → Nat} {E : Nat → Nat → Prop} (hI : IV n h nm nl ns ne nk fr to E) {cs ss : Nat} (h6 : 6 * n + 6 ≤ L) (hcs : cs + 3 ≤ 600000) (hss : ss + 30 ≤ 7302250) (hback : ∀ h2 cs2 ss2, Inv (n + 1) h2 → cs2 ≤ cs + 3 → ss2 ≤ ss + 30 → WP g (mLw nn b L xs) 1128 [(0, .ref 50), (1, .ref 1), (2, .ref 100), (3, .int (nI (6 * n)))] [] h2 cs2 ss2 Post) : WP g (mLw nn b L xs) 376 [(0, .ref 50), (1, .ref 1), (2, .ref 100), (3, .int (nI (6 * n)))] [] h cs ss Post := by
  refine wp_aload_n dL_law_376 rfl 1 rfl ?_
  refine wp_aload_n dL_law_377 rfl 0 rfl ?_
  refine wp_iload_n dL_law_378 rfl 3 rfl ?_
  refine wp_iconst (v := 1) dL_law_379 (by decide) ?_
  refine wv_iadd (nI ((6 * n) + 1)) (wN_add rfl rfl) dL_law_380 ?_
  refine wp_sld ((6 * n) + 1) hb (mLw_X nn b L xs) dL_law_381 rfl (by omega) (by omega) ?_
  refine wp_aload_n dL_law_382 rfl 0 rfl ?_
  refine wp_iload_n dL_law_383 rfl 3 rfl ?_
  refine wp_iconst (v := 2) dL_law_384 (by decide) ?_
  refine wv_iadd (nI ((6 * n) + 2)) (wN_add rfl rfl) dL_law_385 ?_
  refine wp_sld ((6 * n) + 2) hb (mLw_X nn b L xs) dL_law_386 rfl (by omega) (by omega) ?_
  refine wi_if_eq (tgt := 394) (Int32.toInt (xs ((6 * n) + 2))) rfl dL_law_387 (by decide) (fun c_1 => ?_) (fun c_1 => ?_)
  · refine wp_iconst (v := 0) dL_law_394 (by decide) ?_
    refine wp_callV mX6_rest 1 [.int (xs ((6 * n) + 1)), .int 0] [] (c := 6) dL_law_395 iX6_rest (fun _ => trivial) mlL_34 imX6_rest seX6_rest (by decide) rfl rfl ⟨(Nat.le_of_ble_eq_true rfl), (Nat.le_of_ble_eq_true rfl)⟩ rfl rfl (Nat.le_of_ble_eq_true rfl) (Nat.le_of_ble_eq_true rfl) (by show cs + 0 ≤ 600000; omega) (by show ss + 0 ≤ 7302250; omega) ?_
    refine ct_post (op_rest hI (by omega) (xs ((6 * n) + 1)) 0 (by decide)) (fun v h1 hv => ?_)
    obtain ⟨r, rfl, hc⟩ := hv
    show WP g (mLw nn b L xs) 398 [(0, .ref 50), (1, .ref 1), (2, .ref 100), (3, .int (nI (6 * n)))] [.long r] _ (cs + 0) (ss + 0) _
    refine wp_aload_n dL_law_398 rfl 2 rfl ?_
    refine wp_aload_n dL_law_399 rfl 0 rfl ?_
    refine wp_iload_n dL_law_400 rfl 3 rfl ?_
    refine wp_iconst (v := 1) dL_law_401 (by decide) ?_
    refine wv_iadd (nI ((6 * n) + 1)) (wN_add rfl rfl) dL_law_402 ?_
    refine wp_sld ((6 * n) + 1) hb (mLw_X nn b L xs) dL_law_403 rfl (by omega) (by omega) ?_
    refine wp_aload_n dL_law_404 rfl 0 rfl ?_
    refine wp_iload_n dL_law_405 rfl 3 rfl ?_
    refine wp_iconst (v := 2) dL_law_406 (by decide) ?_
    refine wv_iadd (nI ((6 * n) + 2)) (wN_add rfl rfl) dL_law_407 ?_
    refine wp_sld ((6 * n) + 2) hb (mLw_X nn b L xs) dL_law_408 rfl (by omega) (by omega) ?_
    refine wi_if_eq (tgt := 416) (Int32.toInt (xs ((6 * n) + 2))) rfl dL_law_409 (by decide) (fun _ => ?_) (fun c_2 => absurd c_1 c_2)
    refine wp_pc (pc' := 416) rfl ?_
    refine wp_iconst (v := 0) dL_law_416 (by decide) ?_
    refine wp_callV mX7_rest 100 [.int (xs ((6 * n) + 1)), .int 0] [.long r] (c := 7) dL_law_417 iX7_rest (fun _ => trivial) mlL_38 imX7_rest seX7_rest (by decide) rfl rfl ⟨(Nat.le_of_ble_eq_true rfl), (Nat.le_of_ble_eq_true rfl)⟩ rfl rfl (Nat.le_of_ble_eq_true rfl) (Nat.le_of_ble_eq_true rfl) (by show cs + 0 + 0 ≤ 600000; omega) (by show ss + 0 + 0 ≤ 7302250; omega) ?_
    refine ct_post hc (fun v h2 hv => ?_)
    obtain ⟨rfl, hI2⟩ := hv
    show WP g (mLw nn b L xs) 420 [(0, .ref 50), (1, .ref 1), (2, .ref 100), (3, .int (nI (6 * n)))] [.long r, .long r] _ (cs + 0 + 0) (ss + 0 + 0) _
    refine wil_eq (tgt := 1128) (Int64.toInt r) (Int64.toInt r) rfl rfl dL_law_420 dL_law_421 (by decide) (fun _ => ?_) (fun c_3 => absurd rfl c_3)
    refine wp_sub [0, 1, 2, 3] rfl ?_
    exact hback h2 _ _ hI2 (by show cs + 0 + 0 ≤ cs + 3; omega) (by show ss + 0 + 0 ≤ ss + 30; omega)
  · refine wp_iconst (v := 1) dL_law_390 (by decide) ?_
    refine wp_goto (tgt := 395) dL_law_391 (by decide) ?_
    refine wp_callV mX6_rest 1 [.int (xs ((6 * n) + 1)), .int 1] [] (c := 6) dL_law_395 iX6_rest (fun _ => trivial) mlL_34 imX6_rest seX6_rest (by decide) rfl rfl ⟨(Nat.le_of_ble_eq_true rfl), (Nat.le_of_ble_eq_true rfl)⟩ rfl rfl (Nat.le_of_ble_eq_true rfl) (Nat.le_of_ble_eq_true rfl) (by show cs + 0 ≤ 600000; omega) (by show ss + 0 ≤ 7302250; omega) ?_
    refine ct_post (op_rest hI (by omega) (xs ((6 * n) + 1)) 1 (by decide)) (fun v h1 hv => ?_)
    obtain ⟨r, rfl, hc⟩ := hv
    show WP g (mLw nn b L xs) 398 [(0, .ref 50), (1, .ref 1), (2, .ref 100), (3, .int (nI (6 * n)))] [.long r] _ (cs + 0) (ss + 0) _
    refine wp_aload_n dL_law_398 rfl 2 rfl ?_
    refine wp_aload_n dL_law_399 rfl 0 rfl ?_
    refine wp_iload_n dL_law_400 rfl 3 rfl ?_
    refine wp_iconst (v := 1) dL_law_401 (by decide) ?_
    refine wv_iadd (nI ((6 * n) + 1)) (wN_add rfl rfl) dL_law_402 ?_
    refine wp_sld ((6 * n) + 1) hb (mLw_X nn b L xs) dL_law_403 rfl (by omega) (by omega) ?_
    refine wp_aload_n dL_law_404 rfl 0 rfl ?_
    refine wp_iload_n dL_law_405 rfl 3 rfl ?_
    refine wp_iconst (v := 2) dL_law_406 (by decide) ?_
    refine wv_iadd (nI ((6 * n) + 2)) (wN_add rfl rfl) dL_law_407 ?_
    refine wp_sld ((6 * n) + 2) hb (mLw_X nn b L xs) dL_law_408 rfl (by omega) (by omega) ?_
    refine wp_pc (pc' := 409) rfl ?_
    refine wi_if_eq (tgt := 416) (Int32.toInt (xs ((6 * n) + 2))) rfl dL_law_409 (by decide) (fun c_4 => absurd c_4 c_1) (fun _ => ?_)
    refine wp_iconst (v := 1) dL_law_412 (by decide) ?_
    refine wp_goto (tgt := 417) dL_law_413 (by decide) ?_
    refine wp_callV mX7_rest 100 [.int (xs ((6 * n) + 1)), .int 1] [.long r] (c := 7) dL_law_417 iX7_rest (fun _ => trivial) mlL_38 imX7_rest seX7_rest (by decide) rfl rfl ⟨(Nat.le_of_ble_eq_true rfl), (Nat.le_of_ble_eq_true rfl)⟩ rfl rfl (Nat.le_of_ble_eq_true rfl) (Nat.le_of_ble_eq_true rfl) (by show cs + 0 + 0 ≤ 600000; omega) (by show ss + 0 + 0 ≤ 7302250; omega) ?_
    refine ct_post hc (fun v h2 hv => ?_)
    obtain ⟨rfl, hI2⟩ := hv
    show WP g (mLw nn b L xs) 420 [(0, .ref 50), (1, .ref 1), (2, .ref 100), (3, .int (nI (6 * n)))] [.long r, .long r] _ (cs + 0 + 0) (ss + 0 + 0) _
    refine wil_eq (tgt := 1128) (Int64.toInt r) (Int64.toInt r) rfl rfl dL_law_420 dL_law_421 (by decide) (fun _ => ?_) (fun c_5 => absurd rfl c_5)
    refine wp_sub [0, 1, 2, 3] rfl ?_
    exact hback h2 _ _ hI2 (by show cs + 0 + 0 ≤ cs + 3; omega) (by show ss + 0 + 0 ≤ ss + 30; omega)
set_option maxRecDepth 100000 in
set_option maxHeartbeats 4000000 in
theorem law_counter {g : GG} {Post : Option Value → HP → Prop} {nn : String} {b L : Nat} {xs : Nat → Int32} (hb : g.2.2 15 = b) (hL : L ≤ 384) {n : Nat} {h : HP} {nm nl ns ne nk : Nat} {fr to : Nat → Nat} {E : Nat → Nat → Prop} (hI : IV n h nm nl ns ne nk fr to E) {cs ss : Nat} (h6 : 6 * n + 6 ≤ L) (hcs : cs + 3 ≤ 600000) (hss : ss + 30 ≤ 7302250) (hback : ∀ h2 cs2 ss2, Inv (n + 1) h2 → cs2 ≤ cs + 3 → ss2 ≤ ss + 30 → WP g (mLw nn b L xs) 1128 [(0, .ref 50), (1, .ref 1), (2, .ref 100), (3, .int (nI (6 * n)))] [] h2 cs2 ss2 Post) : WP g (mLw nn b L xs) 426 [(0, .ref 50), (1, .ref 1), (2, .ref 100), (3, .int (nI (6 * n)))] [] h cs ss Post := by
  refine wp_aload_n dL_law_426 rfl 1 rfl ?_
  refine wp_aload_n dL_law_427 rfl 0 rfl ?_
  refine wp_iload_n dL_law_428 rfl 3 rfl ?_
  refine wp_iconst (v := 1) dL_law_429 (by decide) ?_
  refine wv_iadd (nI ((6 * n) + 1)) (wN_add rfl rfl) dL_law_430 ?_
  refine wp_sld ((6 * n) + 1) hb (mLw_X nn b L xs) dL_law_431 rfl (by omega) (by omega) ?_
  refine wp_callV mX6_counter 1 [.int (xs ((6 * n) + 1))] [] (c := 6) dL_law_432 iX6_counter (fun _ => trivial) mlL_39 imX6_counter seX6_counter (by decide) rfl rfl ⟨(Nat.le_of_ble_eq_true rfl), (Nat.le_of_ble_eq_true rfl)⟩ rfl rfl (Nat.le_of_ble_eq_true rfl) (Nat.le_of_ble_eq_true rfl) (by show cs + 0 ≤ 600000; omega) (by show ss + 0 ≤ 7302250; omega) ?_
  refine ct_post (op_counter hI (by omega) (xs ((6 * n) + 1))) (fun v h1 hv => ?_)
  obtain ⟨r, rfl, hc⟩ := hv
  show WP g (mLw nn b L xs) 435 [(0, .ref 50), (1, .ref 1), (2, .ref 100), (3, .int (nI (6 * n)))] [.long r] _ (cs + 0) (ss + 0) _
  refine wp_aload_n dL_law_435 rfl 2 rfl ?_
  refine wp_aload_n dL_law_436 rfl 0 rfl ?_
  refine wp_iload_n dL_law_437 rfl 3 rfl ?_
  refine wp_iconst (v := 1) dL_law_438 (by decide) ?_
  refine wv_iadd (nI ((6 * n) + 1)) (wN_add rfl rfl) dL_law_439 ?_
  refine wp_sld ((6 * n) + 1) hb (mLw_X nn b L xs) dL_law_440 rfl (by omega) (by omega) ?_
  refine wp_callV mX7_counter 100 [.int (xs ((6 * n) + 1))] [.long r] (c := 7) dL_law_441 iX7_counter (fun _ => trivial) mlL_42 imX7_counter seX7_counter (by decide) rfl rfl ⟨(Nat.le_of_ble_eq_true rfl), (Nat.le_of_ble_eq_true rfl)⟩ rfl rfl (Nat.le_of_ble_eq_true rfl) (Nat.le_of_ble_eq_true rfl) (by show cs + 0 + 0 ≤ 600000; omega) (by show ss + 0 + 0 ≤ 7302250; omega) ?_
  refine ct_post hc (fun v h2 hv => ?_)
  obtain ⟨rfl, hI2⟩ := hv
  show WP g (mLw nn b L xs) 444 [(0, .ref 50), (1, .ref 1), (2, .ref 100), (3, .int (nI (6 * n)))] [.long r, .long r] _ (cs + 0 + 0) (ss + 0 + 0) _
  refine wil_eq (tgt := 1128) (Int64.toInt r) (Int64.toInt r) rfl rfl dL_law_444 dL_law_445 (by decide) (fun _ => ?_) (fun c_1 => absurd rfl c_1)
  refine wp_pc (pc' := 1128) rfl ?_
  refine wp_sub [0, 1, 2, 3] rfl ?_
  exact hback h2 _ _ hI2 (by show cs + 0 + 0 ≤ cs + 3; omega) (by show ss + 0 + 0 ≤ ss + 30; omega)
set_option maxRecDepth 100000 in
set_option maxHeartbeats 4000000 in
theorem law_of {g : GG} {Post : Option Value → HP → Prop} {nn : String} {b L : Nat} {xs : Nat → Int32} (hb : g.2.2 15 = b) (hL : L ≤ 384) {n : Nat} {h : HP} {nm nl ns ne nk : Nat} {fr to : Nat → Nat} {E : Nat → Nat → Prop} (hI : IV n h nm nl ns ne nk fr to E) {cs ss : Nat} (h6 : 6 * n + 6 ≤ L) (hcs : cs + 3 ≤ 600000) (hss : ss + 30 ≤ 7302250) (hback : ∀ h2 cs2 ss2, Inv (n + 1) h2 → cs2 ≤ cs + 3 → ss2 ≤ ss + 30 → WP g (mLw nn b L xs) 1128 [(0, .ref 50), (1, .ref 1), (2, .ref 100), (3, .int (nI (6 * n)))] [] h2 cs2 ss2 Post) : WP g (mLw nn b L xs) 450 [(0, .ref 50), (1, .ref 1), (2, .ref 100), (3, .int (nI (6 * n)))] [] h cs ss Post := by
  refine wp_aload_n dL_law_450 rfl 1 rfl ?_
  refine wp_aload_n dL_law_451 rfl 0 rfl ?_
  refine wp_iload_n dL_law_452 rfl 3 rfl ?_
  refine wp_iconst (v := 1) dL_law_453 (by decide) ?_
  refine wv_iadd (nI ((6 * n) + 1)) (wN_add rfl rfl) dL_law_454 ?_
  refine wp_sld ((6 * n) + 1) hb (mLw_X nn b L xs) dL_law_455 rfl (by omega) (by omega) ?_
  refine wp_aload_n dL_law_456 rfl 0 rfl ?_
  refine wp_iload_n dL_law_457 rfl 3 rfl ?_
  refine wp_iconst (v := 2) dL_law_458 (by decide) ?_
  refine wv_iadd (nI ((6 * n) + 2)) (wN_add rfl rfl) dL_law_459 ?_
  refine wp_sld ((6 * n) + 2) hb (mLw_X nn b L xs) dL_law_460 rfl (by omega) (by omega) ?_
  refine wp_callV mX6_of 1 [.int (xs ((6 * n) + 1)), .int (xs ((6 * n) + 2))] [] (c := 6) dL_law_461 iX6_of (fun _ => trivial) mlL_43 imX6_of seX6_of (by decide) rfl rfl ⟨(Nat.le_of_ble_eq_true rfl), (Nat.le_of_ble_eq_true rfl)⟩ rfl rfl (Nat.le_of_ble_eq_true rfl) (Nat.le_of_ble_eq_true rfl) (by show cs + 0 ≤ 600000; omega) (by show ss + 0 ≤ 7302250; omega) ?_
  refine ct_post (op_of hI (by omega) (xs ((6 * n) + 1)) (xs ((6 * n) + 2))) (fun v h1 hv => ?_)
  obtain ⟨r, rfl, hc⟩ := hv
  show WP g (mLw nn b L xs) 464 [(0, .ref 50), (1, .ref 1), (2, .ref 100), (3, .int (nI (6 * n)))] [.long r] _ (cs + 0) (ss + 0) _
  refine wp_aload_n dL_law_464 rfl 2 rfl ?_
  refine wp_aload_n dL_law_465 rfl 0 rfl ?_
  refine wp_iload_n dL_law_466 rfl 3 rfl ?_
  refine wp_pc (pc' := 467) rfl ?_
  refine wp_iconst (v := 1) dL_law_467 (by decide) ?_
  refine wv_iadd (nI ((6 * n) + 1)) (wN_add rfl rfl) dL_law_468 ?_
  refine wp_sld ((6 * n) + 1) hb (mLw_X nn b L xs) dL_law_469 rfl (by omega) (by omega) ?_
  refine wp_aload_n dL_law_470 rfl 0 rfl ?_
  refine wp_iload_n dL_law_471 rfl 3 rfl ?_
  refine wp_iconst (v := 2) dL_law_472 (by decide) ?_
  refine wv_iadd (nI ((6 * n) + 2)) (wN_add rfl rfl) dL_law_473 ?_
  refine wp_sld ((6 * n) + 2) hb (mLw_X nn b L xs) dL_law_474 rfl (by omega) (by omega) ?_
  refine wp_callV mX7_of 100 [.int (xs ((6 * n) + 1)), .int (xs ((6 * n) + 2))] [.long r] (c := 7) dL_law_475 iX7_of (fun _ => trivial) mlL_47 imX7_of seX7_of (by decide) rfl rfl ⟨(Nat.le_of_ble_eq_true rfl), (Nat.le_of_ble_eq_true rfl)⟩ rfl rfl (Nat.le_of_ble_eq_true rfl) (Nat.le_of_ble_eq_true rfl) (by show cs + 0 + 0 ≤ 600000; omega) (by show ss + 0 + 0 ≤ 7302250; omega) ?_
  refine ct_post hc (fun v h2 hv => ?_)
  obtain ⟨rfl, hI2⟩ := hv
  show WP g (mLw nn b L xs) 478 [(0, .ref 50), (1, .ref 1), (2, .ref 100), (3, .int (nI (6 * n)))] [.long r, .long r] _ (cs + 0 + 0) (ss + 0 + 0) _
  refine wil_eq (tgt := 1128) (Int64.toInt r) (Int64.toInt r) rfl rfl dL_law_478 dL_law_479 (by decide) (fun _ => ?_) (fun c_1 => absurd rfl c_1)
  refine wp_sub [0, 1, 2, 3] rfl ?_
  exact hback h2 _ _ hI2 (by show cs + 0 + 0 ≤ cs + 3; omega) (by show ss + 0 + 0 ≤ ss + 30; omega)
set_option maxRecDepth 100000 in
set_option maxHeartbeats 4000000 in
theorem law_ask {g : GG} {Post : Option Value → HP → Prop} {nn : String} {b L : Nat} {xs : Nat → Int32} (hb : g.2.2 15 = b) (hL : L ≤ 384) {n : Nat} {h : HP} {nm nl ns ne nk : Nat} {fr to : Nat → Nat} {E : Nat → Nat → Prop} (hI : IV n h nm nl ns ne nk fr to E) {cs ss : Nat} (h6 : 6 * n + 6 ≤ L) (hcs : cs + 3 ≤ 600000) (hss : ss + 30 ≤ 7302250) (hback : ∀ h2 cs2 ss2, Inv (n + 1) h2 → cs2 ≤ cs + 3 → ss2 ≤ ss + 30 → WP g (mLw nn b L xs) 1128 [(0, .ref 50), (1, .ref 1), (2, .ref 100), (3, .int (nI (6 * n)))] [] h2 cs2 ss2 Post) : WP g (mLw nn b L xs) 484 [(0, .ref 50), (1, .ref 1), (2, .ref 100), (3, .int (nI (6 * n)))] [] h cs ss Post := by
  refine wp_aload_n dL_law_484 rfl 1 rfl ?_
  refine wp_aload_n dL_law_485 rfl 0 rfl ?_
  refine wp_iload_n dL_law_486 rfl 3 rfl ?_
  refine wp_iconst (v := 1) dL_law_487 (by decide) ?_
  refine wv_iadd (nI ((6 * n) + 1)) (wN_add rfl rfl) dL_law_488 ?_
  refine wp_sld ((6 * n) + 1) hb (mLw_X nn b L xs) dL_law_489 rfl (by omega) (by omega) ?_
  refine wp_aload_n dL_law_490 rfl 0 rfl ?_
  refine wp_iload_n dL_law_491 rfl 3 rfl ?_
  refine wp_iconst (v := 2) dL_law_492 (by decide) ?_
  refine wv_iadd (nI ((6 * n) + 2)) (wN_add rfl rfl) dL_law_493 ?_
  refine wp_sld ((6 * n) + 2) hb (mLw_X nn b L xs) dL_law_494 rfl (by omega) (by omega) ?_
  refine wp_callV mX6_ask 1 [.int (xs ((6 * n) + 1)), .int (xs ((6 * n) + 2))] [] (c := 6) dL_law_495 iX6_ask (fun _ => trivial) mlL_48 imX6_ask seX6_ask (by decide) rfl rfl ⟨(Nat.le_of_ble_eq_true rfl), (Nat.le_of_ble_eq_true rfl)⟩ rfl rfl (Nat.le_of_ble_eq_true rfl) (Nat.le_of_ble_eq_true rfl) (by show cs + 1 ≤ 600000; omega) (by show ss + 7 ≤ 7302250; omega) ?_
  refine ct_post (op_ask hI (by omega) (xs ((6 * n) + 1)) (xs ((6 * n) + 2))) (fun v h1 hv => ?_)
  obtain ⟨r, rfl, hc⟩ := hv
  show WP g (mLw nn b L xs) 498 [(0, .ref 50), (1, .ref 1), (2, .ref 100), (3, .int (nI (6 * n)))] [.long r] _ (cs + 1) (ss + 7) _
  refine wp_aload_n dL_law_498 rfl 2 rfl ?_
  refine wp_aload_n dL_law_499 rfl 0 rfl ?_
  refine wp_iload_n dL_law_500 rfl 3 rfl ?_
  refine wp_pc (pc' := 501) rfl ?_
  refine wp_iconst (v := 1) dL_law_501 (by decide) ?_
  refine wv_iadd (nI ((6 * n) + 1)) (wN_add rfl rfl) dL_law_502 ?_
  refine wp_sld ((6 * n) + 1) hb (mLw_X nn b L xs) dL_law_503 rfl (by omega) (by omega) ?_
  refine wp_aload_n dL_law_504 rfl 0 rfl ?_
  refine wp_iload_n dL_law_505 rfl 3 rfl ?_
  refine wp_iconst (v := 2) dL_law_506 (by decide) ?_
  refine wv_iadd (nI ((6 * n) + 2)) (wN_add rfl rfl) dL_law_507 ?_
  refine wp_sld ((6 * n) + 2) hb (mLw_X nn b L xs) dL_law_508 rfl (by omega) (by omega) ?_
  refine wp_callV mX7_ask 100 [.int (xs ((6 * n) + 1)), .int (xs ((6 * n) + 2))] [.long r] (c := 7) dL_law_509 iX7_ask (fun _ => trivial) mlL_51 imX7_ask seX7_ask (by decide) rfl rfl ⟨(Nat.le_of_ble_eq_true rfl), (Nat.le_of_ble_eq_true rfl)⟩ rfl rfl (Nat.le_of_ble_eq_true rfl) (Nat.le_of_ble_eq_true rfl) (by show cs + 1 + 0 ≤ 600000; omega) (by show ss + 7 + 0 ≤ 7302250; omega) ?_
  refine ct_post hc (fun v h2 hv => ?_)
  obtain ⟨rfl, hI2⟩ := hv
  show WP g (mLw nn b L xs) 512 [(0, .ref 50), (1, .ref 1), (2, .ref 100), (3, .int (nI (6 * n)))] [.long r, .long r] _ (cs + 1 + 0) (ss + 7 + 0) _
  refine wil_eq (tgt := 1128) (Int64.toInt r) (Int64.toInt r) rfl rfl dL_law_512 dL_law_513 (by decide) (fun _ => ?_) (fun c_1 => absurd rfl c_1)
  refine wp_sub [0, 1, 2, 3] rfl ?_
  exact hback h2 _ _ hI2 (by show cs + 1 + 0 ≤ cs + 3; omega) (by show ss + 7 + 0 ≤ ss + 30; omega)
set_option maxRecDepth 100000 in
set_option maxHeartbeats 4000000 in
theorem law_deliver {g : GG} {Post : Option Value → HP → Prop} {nn : String} {b L : Nat} {xs : Nat → Int32} (hb : g.2.2 15 = b) (hL : L ≤ 384) {n : Nat} {h : HP} {nm nl ns ne nk : Nat} {fr to : Nat → Nat} {E : Nat → Nat → Prop} (hI : IV n h nm nl ns ne nk fr to E) {cs ss : Nat} (h6 : 6 * n + 6 ≤ L) (hcs : cs + 3 ≤ 600000) (hss : ss + 30 ≤ 7302250) (hback : ∀ h2 cs2 ss2, Inv (n + 1) h2 → cs2 ≤ cs + 3 → ss2 ≤ ss + 30 → WP g (mLw nn b L xs) 1128 [(0, .ref 50), (1, .ref 1), (2, .ref 100), (3, .int (nI (6 * n)))] [] h2 cs2 ss2 Post) : WP g (mLw nn b L xs) 518 [(0, .ref 50), (1, .ref 1), (2, .ref 100), (3, .int (nI (6 * n)))] [] h cs ss Post := by
  refine wp_aload_n dL_law_518 rfl 1 rfl ?_
  refine wp_aload_n dL_law_519 rfl 0 rfl ?_
  refine wp_iload_n dL_law_520 rfl 3 rfl ?_
  refine wp_iconst (v := 1) dL_law_521 (by decide) ?_
  refine wv_iadd (nI ((6 * n) + 1)) (wN_add rfl rfl) dL_law_522 ?_
  refine wp_sld ((6 * n) + 1) hb (mLw_X nn b L xs) dL_law_523 rfl (by omega) (by omega) ?_
  refine wp_callV mX6_deliver 1 [.int (xs ((6 * n) + 1))] [] (c := 6) dL_law_524 iX6_deliver (fun _ => trivial) mlL_52 imX6_deliver seX6_deliver (by decide) rfl rfl ⟨(Nat.le_of_ble_eq_true rfl), (Nat.le_of_ble_eq_true rfl)⟩ rfl rfl (Nat.le_of_ble_eq_true rfl) (Nat.le_of_ble_eq_true rfl) (by show cs + 1 ≤ 600000; omega) (by show ss + 4 ≤ 7302250; omega) ?_
  refine ct_post (op_deliver hI (by omega) (xs ((6 * n) + 1))) (fun v h1 hv => ?_)
  obtain ⟨r, rfl, hc⟩ := hv
  show WP g (mLw nn b L xs) 527 [(0, .ref 50), (1, .ref 1), (2, .ref 100), (3, .int (nI (6 * n)))] [.long r] _ (cs + 1) (ss + 4) _
  refine wp_aload_n dL_law_527 rfl 2 rfl ?_
  refine wp_aload_n dL_law_528 rfl 0 rfl ?_
  refine wp_iload_n dL_law_529 rfl 3 rfl ?_
  refine wp_iconst (v := 1) dL_law_530 (by decide) ?_
  refine wv_iadd (nI ((6 * n) + 1)) (wN_add rfl rfl) dL_law_531 ?_
  refine wp_sld ((6 * n) + 1) hb (mLw_X nn b L xs) dL_law_532 rfl (by omega) (by omega) ?_
  refine wp_callV mX7_deliver 100 [.int (xs ((6 * n) + 1))] [.long r] (c := 7) dL_law_533 iX7_deliver (fun _ => trivial) mlL_55 imX7_deliver seX7_deliver (by decide) rfl rfl ⟨(Nat.le_of_ble_eq_true rfl), (Nat.le_of_ble_eq_true rfl)⟩ rfl rfl (Nat.le_of_ble_eq_true rfl) (Nat.le_of_ble_eq_true rfl) (by show cs + 1 + 0 ≤ 600000; omega) (by show ss + 4 + 0 ≤ 7302250; omega) ?_
  refine ct_post hc (fun v h2 hv => ?_)
  obtain ⟨rfl, hI2⟩ := hv
  show WP g (mLw nn b L xs) 536 [(0, .ref 50), (1, .ref 1), (2, .ref 100), (3, .int (nI (6 * n)))] [.long r, .long r] _ (cs + 1 + 0) (ss + 4 + 0) _
  refine wil_eq (tgt := 1128) (Int64.toInt r) (Int64.toInt r) rfl rfl dL_law_536 dL_law_537 (by decide) (fun _ => ?_) (fun c_1 => absurd rfl c_1)
  refine wp_pc (pc' := 1128) rfl ?_
  refine wp_sub [0, 1, 2, 3] rfl ?_
  exact hback h2 _ _ hI2 (by show cs + 1 + 0 ≤ cs + 3; omega) (by show ss + 4 + 0 ≤ ss + 30; omega)
set_option maxRecDepth 100000 in
set_option maxHeartbeats 4000000 in
theorem law_lose {g : GG} {Post : Option Value → HP → Prop} {nn : String} {b L : Nat} {xs : Nat → Int32} (hb : g.2.2 15 = b) (hL : L ≤ 384) {n : Nat} {h : HP} {nm nl ns ne nk : Nat} {fr to : Nat → Nat} {E : Nat → Nat → Prop} (hI : IV n h nm nl ns ne nk fr to E) {cs ss : Nat} (h6 : 6 * n + 6 ≤ L) (hcs : cs + 3 ≤ 600000) (hss : ss + 30 ≤ 7302250) (hback : ∀ h2 cs2 ss2, Inv (n + 1) h2 → cs2 ≤ cs + 3 → ss2 ≤ ss + 30 → WP g (mLw nn b L xs) 1128 [(0, .ref 50), (1, .ref 1), (2, .ref 100), (3, .int (nI (6 * n)))] [] h2 cs2 ss2 Post) : WP g (mLw nn b L xs) 542 [(0, .ref 50), (1, .ref 1), (2, .ref 100), (3, .int (nI (6 * n)))] [] h cs ss Post := by
  refine wp_aload_n dL_law_542 rfl 1 rfl ?_
  refine wp_aload_n dL_law_543 rfl 0 rfl ?_
  refine wp_iload_n dL_law_544 rfl 3 rfl ?_
  refine wp_iconst (v := 1) dL_law_545 (by decide) ?_
  refine wv_iadd (nI ((6 * n) + 1)) (wN_add rfl rfl) dL_law_546 ?_
  refine wp_sld ((6 * n) + 1) hb (mLw_X nn b L xs) dL_law_547 rfl (by omega) (by omega) ?_
  refine wp_callV mX6_lose 1 [.int (xs ((6 * n) + 1))] [] (c := 6) dL_law_548 iX6_lose (fun _ => trivial) mlL_56 imX6_lose seX6_lose (by decide) rfl rfl ⟨(Nat.le_of_ble_eq_true rfl), (Nat.le_of_ble_eq_true rfl)⟩ rfl rfl (Nat.le_of_ble_eq_true rfl) (Nat.le_of_ble_eq_true rfl) (by show cs + 0 ≤ 600000; omega) (by show ss + 0 ≤ 7302250; omega) ?_
  refine ct_post (op_lose hI (by omega) (xs ((6 * n) + 1))) (fun v h1 hv => ?_)
  obtain ⟨r, rfl, hc⟩ := hv
  show WP g (mLw nn b L xs) 551 [(0, .ref 50), (1, .ref 1), (2, .ref 100), (3, .int (nI (6 * n)))] [.long r] _ (cs + 0) (ss + 0) _
  refine wp_aload_n dL_law_551 rfl 2 rfl ?_
  refine wp_aload_n dL_law_552 rfl 0 rfl ?_
  refine wp_iload_n dL_law_553 rfl 3 rfl ?_
  refine wp_iconst (v := 1) dL_law_554 (by decide) ?_
  refine wv_iadd (nI ((6 * n) + 1)) (wN_add rfl rfl) dL_law_555 ?_
  refine wp_sld ((6 * n) + 1) hb (mLw_X nn b L xs) dL_law_556 rfl (by omega) (by omega) ?_
  refine wp_callV mX7_lose 100 [.int (xs ((6 * n) + 1))] [.long r] (c := 7) dL_law_557 iX7_lose (fun _ => trivial) mlL_59 imX7_lose seX7_lose (by decide) rfl rfl ⟨(Nat.le_of_ble_eq_true rfl), (Nat.le_of_ble_eq_true rfl)⟩ rfl rfl (Nat.le_of_ble_eq_true rfl) (Nat.le_of_ble_eq_true rfl) (by show cs + 0 + 0 ≤ 600000; omega) (by show ss + 0 + 0 ≤ 7302250; omega) ?_
  refine ct_post hc (fun v h2 hv => ?_)
  obtain ⟨rfl, hI2⟩ := hv
  show WP g (mLw nn b L xs) 560 [(0, .ref 50), (1, .ref 1), (2, .ref 100), (3, .int (nI (6 * n)))] [.long r, .long r] _ (cs + 0 + 0) (ss + 0 + 0) _
  refine wil_eq (tgt := 1128) (Int64.toInt r) (Int64.toInt r) rfl rfl dL_law_560 dL_law_561 (by decide) (fun _ => ?_) (fun c_1 => absurd rfl c_1)
  refine wp_pc (pc' := 1128) rfl ?_
  refine wp_sub [0, 1, 2, 3] rfl ?_
  exact hback h2 _ _ hI2 (by show cs + 0 + 0 ≤ cs + 3; omega) (by show ss + 0 + 0 ≤ ss + 30; omega)
set_option maxRecDepth 100000 in
set_option maxHeartbeats 4000000 in
theorem law_twice {g : GG} {Post : Option Value → HP → Prop} {nn : String} {b L : Nat} {xs : Nat → Int32} (hb : g.2.2 15 = b) (hL : L ≤ 384) {n : Nat} {h : HP} {nm nl ns ne nk : Nat} {fr to : Nat → Nat} {E : Nat → Nat → Prop} (hI : IV n h nm nl ns ne nk fr to E) {cs ss : Nat} (h6 : 6 * n + 6 ≤ L) (hcs : cs + 3 ≤ 600000) (hss : ss + 30 ≤ 7302250) (hback : ∀ h2 cs2 ss2, Inv (n + 1) h2 → cs2 ≤ cs + 3 → ss2 ≤ ss + 30 → WP g (mLw nn b L xs) 1128 [(0, .ref 50), (1, .ref 1), (2, .ref 100), (3, .int (nI (6 * n)))] [] h2 cs2 ss2 Post) : WP g (mLw nn b L xs) 566 [(0, .ref 50), (1, .ref 1), (2, .ref 100), (3, .int (nI (6 * n)))] [] h cs ss Post := by
  refine wp_aload_n dL_law_566 rfl 1 rfl ?_
  refine wp_aload_n dL_law_567 rfl 0 rfl ?_
  refine wp_iload_n dL_law_568 rfl 3 rfl ?_
  refine wp_iconst (v := 1) dL_law_569 (by decide) ?_
  refine wv_iadd (nI ((6 * n) + 1)) (wN_add rfl rfl) dL_law_570 ?_
  refine wp_sld ((6 * n) + 1) hb (mLw_X nn b L xs) dL_law_571 rfl (by omega) (by omega) ?_
  refine wp_callV mX6_twice 1 [.int (xs ((6 * n) + 1))] [] (c := 6) dL_law_572 iX6_twice (fun _ => trivial) mlL_60 imX6_twice seX6_twice (by decide) rfl rfl ⟨(Nat.le_of_ble_eq_true rfl), (Nat.le_of_ble_eq_true rfl)⟩ rfl rfl (Nat.le_of_ble_eq_true rfl) (Nat.le_of_ble_eq_true rfl) (by show cs + 1 ≤ 600000; omega) (by show ss + 7 ≤ 7302250; omega) ?_
  refine ct_post (op_twice hI (by omega) (xs ((6 * n) + 1))) (fun v h1 hv => ?_)
  obtain ⟨r, rfl, hc⟩ := hv
  show WP g (mLw nn b L xs) 575 [(0, .ref 50), (1, .ref 1), (2, .ref 100), (3, .int (nI (6 * n)))] [.long r] _ (cs + 1) (ss + 7) _
  refine wp_aload_n dL_law_575 rfl 2 rfl ?_
  refine wp_aload_n dL_law_576 rfl 0 rfl ?_
  refine wp_iload_n dL_law_577 rfl 3 rfl ?_
  refine wp_iconst (v := 1) dL_law_578 (by decide) ?_
  refine wv_iadd (nI ((6 * n) + 1)) (wN_add rfl rfl) dL_law_579 ?_
  refine wp_sld ((6 * n) + 1) hb (mLw_X nn b L xs) dL_law_580 rfl (by omega) (by omega) ?_
  refine wp_callV mX7_twice 100 [.int (xs ((6 * n) + 1))] [.long r] (c := 7) dL_law_581 iX7_twice (fun _ => trivial) mlL_63 imX7_twice seX7_twice (by decide) rfl rfl ⟨(Nat.le_of_ble_eq_true rfl), (Nat.le_of_ble_eq_true rfl)⟩ rfl rfl (Nat.le_of_ble_eq_true rfl) (Nat.le_of_ble_eq_true rfl) (by show cs + 1 + 0 ≤ 600000; omega) (by show ss + 7 + 0 ≤ 7302250; omega) ?_
  refine ct_post hc (fun v h2 hv => ?_)
  obtain ⟨rfl, hI2⟩ := hv
  show WP g (mLw nn b L xs) 584 [(0, .ref 50), (1, .ref 1), (2, .ref 100), (3, .int (nI (6 * n)))] [.long r, .long r] _ (cs + 1 + 0) (ss + 7 + 0) _
  refine wil_eq (tgt := 1128) (Int64.toInt r) (Int64.toInt r) rfl rfl dL_law_584 dL_law_585 (by decide) (fun _ => ?_) (fun c_1 => absurd rfl c_1)
  refine wp_pc (pc' := 1128) rfl ?_
  refine wp_sub [0, 1, 2, 3] rfl ?_
  exact hback h2 _ _ hI2 (by show cs + 1 + 0 ≤ cs + 3; omega) (by show ss + 7 + 0 ≤ ss + 30; omega)
set_option maxRecDepth 100000 in
set_option maxHeartbeats 4000000 in
theorem law_letter {g : GG} {Post : Option Value → HP → Prop} {nn : String} {b L : Nat} {xs : Nat → Int32} (hb : g.2.2 15 = b) (hL : L ≤ 384) {n : Nat} {h : HP} {nm nl ns ne nk : Nat} {fr to : Nat → Nat} {E : Nat → Nat → Prop} (hI : IV n h nm nl ns ne nk fr to E) {cs ss : Nat} (h6 : 6 * n + 6 ≤ L) (hcs : cs + 3 ≤ 600000) (hss : ss + 30 ≤ 7302250) (hback : ∀ h2 cs2 ss2, Inv (n + 1) h2 → cs2 ≤ cs + 3 → ss2 ≤ ss + 30 → WP g (mLw nn b L xs) 1128 [(0, .ref 50), (1, .ref 1), (2, .ref 100), (3, .int (nI (6 * n)))] [] h2 cs2 ss2 Post) : WP g (mLw nn b L xs) 590 [(0, .ref 50), (1, .ref 1), (2, .ref 100), (3, .int (nI (6 * n)))] [] h cs ss Post := by
  refine wp_aload_n dL_law_590 rfl 1 rfl ?_
  refine wp_aload_n dL_law_591 rfl 0 rfl ?_
  refine wp_iload_n dL_law_592 rfl 3 rfl ?_
  refine wp_iconst (v := 1) dL_law_593 (by decide) ?_
  refine wv_iadd (nI ((6 * n) + 1)) (wN_add rfl rfl) dL_law_594 ?_
  refine wp_sld ((6 * n) + 1) hb (mLw_X nn b L xs) dL_law_595 rfl (by omega) (by omega) ?_
  refine wp_aload_n dL_law_596 rfl 0 rfl ?_
  refine wp_iload_n dL_law_597 rfl 3 rfl ?_
  refine wp_iconst (v := 2) dL_law_598 (by decide) ?_
  refine wv_iadd (nI ((6 * n) + 2)) (wN_add rfl rfl) dL_law_599 ?_
  refine wp_sld ((6 * n) + 2) hb (mLw_X nn b L xs) dL_law_600 rfl (by omega) (by omega) ?_
  refine wp_callV mX6_letter 1 [.int (xs ((6 * n) + 1)), .int (xs ((6 * n) + 2))] [] (c := 6) dL_law_601 iX6_letter (fun _ => trivial) mlL_64 imX6_letter seX6_letter (by decide) rfl rfl ⟨(Nat.le_of_ble_eq_true rfl), (Nat.le_of_ble_eq_true rfl)⟩ rfl rfl (Nat.le_of_ble_eq_true rfl) (Nat.le_of_ble_eq_true rfl) (by show cs + 0 ≤ 600000; omega) (by show ss + 0 ≤ 7302250; omega) ?_
  refine ct_post (op_letter hI (by omega) (xs ((6 * n) + 1)) (xs ((6 * n) + 2))) (fun v h1 hv => ?_)
  obtain ⟨r, rfl, hc⟩ := hv
  show WP g (mLw nn b L xs) 604 [(0, .ref 50), (1, .ref 1), (2, .ref 100), (3, .int (nI (6 * n)))] [.long r] _ (cs + 0) (ss + 0) _
  refine wp_aload_n dL_law_604 rfl 2 rfl ?_
  refine wp_aload_n dL_law_605 rfl 0 rfl ?_
  refine wp_iload_n dL_law_606 rfl 3 rfl ?_
  refine wp_pc (pc' := 607) rfl ?_
  refine wp_iconst (v := 1) dL_law_607 (by decide) ?_
  refine wv_iadd (nI ((6 * n) + 1)) (wN_add rfl rfl) dL_law_608 ?_
  refine wp_sld ((6 * n) + 1) hb (mLw_X nn b L xs) dL_law_609 rfl (by omega) (by omega) ?_
  refine wp_aload_n dL_law_610 rfl 0 rfl ?_
  refine wp_iload_n dL_law_611 rfl 3 rfl ?_
  refine wp_iconst (v := 2) dL_law_612 (by decide) ?_
  refine wv_iadd (nI ((6 * n) + 2)) (wN_add rfl rfl) dL_law_613 ?_
  refine wp_sld ((6 * n) + 2) hb (mLw_X nn b L xs) dL_law_614 rfl (by omega) (by omega) ?_
  refine wp_callV mX7_letter 100 [.int (xs ((6 * n) + 1)), .int (xs ((6 * n) + 2))] [.long r] (c := 7) dL_law_615 iX7_letter (fun _ => trivial) mlL_67 imX7_letter seX7_letter (by decide) rfl rfl ⟨(Nat.le_of_ble_eq_true rfl), (Nat.le_of_ble_eq_true rfl)⟩ rfl rfl (Nat.le_of_ble_eq_true rfl) (Nat.le_of_ble_eq_true rfl) (by show cs + 0 + 0 ≤ 600000; omega) (by show ss + 0 + 0 ≤ 7302250; omega) ?_
  refine ct_post hc (fun v h2 hv => ?_)
  obtain ⟨rfl, hI2⟩ := hv
  show WP g (mLw nn b L xs) 618 [(0, .ref 50), (1, .ref 1), (2, .ref 100), (3, .int (nI (6 * n)))] [.long r, .long r] _ (cs + 0 + 0) (ss + 0 + 0) _
  refine wil_eq (tgt := 1128) (Int64.toInt r) (Int64.toInt r) rfl rfl dL_law_618 dL_law_619 (by decide) (fun _ => ?_) (fun c_1 => absurd rfl c_1)
  refine wp_sub [0, 1, 2, 3] rfl ?_
  exact hback h2 _ _ hI2 (by show cs + 0 + 0 ≤ cs + 3; omega) (by show ss + 0 + 0 ≤ ss + 30; omega)
set_option maxRecDepth 100000 in
set_option maxHeartbeats 4000000 in
theorem law_heard {g : GG} {Post : Option Value → HP → Prop} {nn : String} {b L : Nat} {xs : Nat → Int32} (hb : g.2.2 15 = b) (hL : L ≤ 384) {n : Nat} {h : HP} {nm nl ns ne nk : Nat} {fr to : Nat → Nat} {E : Nat → Nat → Prop} (hI : IV n h nm nl ns ne nk fr to E) {cs ss : Nat} (h6 : 6 * n + 6 ≤ L) (hcs : cs + 3 ≤ 600000) (hss : ss + 30 ≤ 7302250) (hback : ∀ h2 cs2 ss2, Inv (n + 1) h2 → cs2 ≤ cs + 3 → ss2 ≤ ss + 30 → WP g (mLw nn b L xs) 1128 [(0, .ref 50), (1, .ref 1), (2, .ref 100), (3, .int (nI (6 * n)))] [] h2 cs2 ss2 Post) : WP g (mLw nn b L xs) 624 [(0, .ref 50), (1, .ref 1), (2, .ref 100), (3, .int (nI (6 * n)))] [] h cs ss Post := by
  refine wp_aload_n dL_law_624 rfl 1 rfl ?_
  refine wp_aload_n dL_law_625 rfl 0 rfl ?_
  refine wp_iload_n dL_law_626 rfl 3 rfl ?_
  refine wp_iconst (v := 1) dL_law_627 (by decide) ?_
  refine wv_iadd (nI ((6 * n) + 1)) (wN_add rfl rfl) dL_law_628 ?_
  refine wp_sld ((6 * n) + 1) hb (mLw_X nn b L xs) dL_law_629 rfl (by omega) (by omega) ?_
  refine wp_aload_n dL_law_630 rfl 0 rfl ?_
  refine wp_iload_n dL_law_631 rfl 3 rfl ?_
  refine wp_iconst (v := 2) dL_law_632 (by decide) ?_
  refine wv_iadd (nI ((6 * n) + 2)) (wN_add rfl rfl) dL_law_633 ?_
  refine wp_sld ((6 * n) + 2) hb (mLw_X nn b L xs) dL_law_634 rfl (by omega) (by omega) ?_
  refine wp_aload_n dL_law_635 rfl 0 rfl ?_
  refine wp_iload_n dL_law_636 rfl 3 rfl ?_
  refine wp_iconst (v := 3) dL_law_637 (by decide) ?_
  refine wv_iadd (nI ((6 * n) + 3)) (wN_add rfl rfl) dL_law_638 ?_
  refine wp_pc (pc' := 639) rfl ?_
  refine wp_sld ((6 * n) + 3) hb (mLw_X nn b L xs) dL_law_639 rfl (by omega) (by omega) ?_
  refine wp_callV mX6_heard 1 [.int (xs ((6 * n) + 1)), .int (xs ((6 * n) + 2)), .int (xs ((6 * n) + 3))] [] (c := 6) dL_law_640 iX6_heard (fun _ => trivial) mlL_68 imX6_heard seX6_heard (by decide) rfl rfl ⟨(Nat.le_of_ble_eq_true rfl), (Nat.le_of_ble_eq_true rfl)⟩ rfl rfl (Nat.le_of_ble_eq_true rfl) (Nat.le_of_ble_eq_true rfl) (by show cs + 0 ≤ 600000; omega) (by show ss + 0 ≤ 7302250; omega) ?_
  refine ct_post (op_heard hI (by omega) (xs ((6 * n) + 1)) (xs ((6 * n) + 2)) (xs ((6 * n) + 3))) (fun v h1 hv => ?_)
  obtain ⟨r, rfl, hc⟩ := hv
  show WP g (mLw nn b L xs) 643 [(0, .ref 50), (1, .ref 1), (2, .ref 100), (3, .int (nI (6 * n)))] [.long r] _ (cs + 0) (ss + 0) _
  refine wp_aload_n dL_law_643 rfl 2 rfl ?_
  refine wp_aload_n dL_law_644 rfl 0 rfl ?_
  refine wp_iload_n dL_law_645 rfl 3 rfl ?_
  refine wp_iconst (v := 1) dL_law_646 (by decide) ?_
  refine wv_iadd (nI ((6 * n) + 1)) (wN_add rfl rfl) dL_law_647 ?_
  refine wp_sld ((6 * n) + 1) hb (mLw_X nn b L xs) dL_law_648 rfl (by omega) (by omega) ?_
  refine wp_aload_n dL_law_649 rfl 0 rfl ?_
  refine wp_iload_n dL_law_650 rfl 3 rfl ?_
  refine wp_iconst (v := 2) dL_law_651 (by decide) ?_
  refine wv_iadd (nI ((6 * n) + 2)) (wN_add rfl rfl) dL_law_652 ?_
  refine wp_sld ((6 * n) + 2) hb (mLw_X nn b L xs) dL_law_653 rfl (by omega) (by omega) ?_
  refine wp_aload_n dL_law_654 rfl 0 rfl ?_
  refine wp_iload_n dL_law_655 rfl 3 rfl ?_
  refine wp_pc (pc' := 656) rfl ?_
  refine wp_iconst (v := 3) dL_law_656 (by decide) ?_
  refine wv_iadd (nI ((6 * n) + 3)) (wN_add rfl rfl) dL_law_657 ?_
  refine wp_sld ((6 * n) + 3) hb (mLw_X nn b L xs) dL_law_658 rfl (by omega) (by omega) ?_
  refine wp_callV mX7_heard 100 [.int (xs ((6 * n) + 1)), .int (xs ((6 * n) + 2)), .int (xs ((6 * n) + 3))] [.long r] (c := 7) dL_law_659 iX7_heard (fun _ => trivial) mlL_71 imX7_heard seX7_heard (by decide) rfl rfl ⟨(Nat.le_of_ble_eq_true rfl), (Nat.le_of_ble_eq_true rfl)⟩ rfl rfl (Nat.le_of_ble_eq_true rfl) (Nat.le_of_ble_eq_true rfl) (by show cs + 0 + 0 ≤ 600000; omega) (by show ss + 0 + 0 ≤ 7302250; omega) ?_
  refine ct_post hc (fun v h2 hv => ?_)
  obtain ⟨rfl, hI2⟩ := hv
  show WP g (mLw nn b L xs) 662 [(0, .ref 50), (1, .ref 1), (2, .ref 100), (3, .int (nI (6 * n)))] [.long r, .long r] _ (cs + 0 + 0) (ss + 0 + 0) _
  refine wil_eq (tgt := 1128) (Int64.toInt r) (Int64.toInt r) rfl rfl dL_law_662 dL_law_663 (by decide) (fun _ => ?_) (fun c_1 => absurd rfl c_1)
  refine wp_sub [0, 1, 2, 3] rfl ?_
  exact hback h2 _ _ hI2 (by show cs + 0 + 0 ≤ cs + 3; omega) (by show ss + 0 + 0 ≤ ss + 30; omega)
set_option maxRecDepth 100000 in
set_option maxHeartbeats 4000000 in
theorem law_votes {g : GG} {Post : Option Value → HP → Prop} {nn : String} {b L : Nat} {xs : Nat → Int32} (hb : g.2.2 15 = b) (hL : L ≤ 384) {n : Nat} {h : HP} {nm nl ns ne nk : Nat} {fr to : Nat → Nat} {E : Nat → Nat → Prop} (hI : IV n h nm nl ns ne nk fr to E) {cs ss : Nat} (h6 : 6 * n + 6 ≤ L) (hcs : cs + 3 ≤ 600000) (hss : ss + 30 ≤ 7302250) (hback : ∀ h2 cs2 ss2, Inv (n + 1) h2 → cs2 ≤ cs + 3 → ss2 ≤ ss + 30 → WP g (mLw nn b L xs) 1128 [(0, .ref 50), (1, .ref 1), (2, .ref 100), (3, .int (nI (6 * n)))] [] h2 cs2 ss2 Post) : WP g (mLw nn b L xs) 668 [(0, .ref 50), (1, .ref 1), (2, .ref 100), (3, .int (nI (6 * n)))] [] h cs ss Post := by
  refine wp_aload_n dL_law_668 rfl 1 rfl ?_
  refine wp_aload_n dL_law_669 rfl 0 rfl ?_
  refine wp_iload_n dL_law_670 rfl 3 rfl ?_
  refine wp_iconst (v := 1) dL_law_671 (by decide) ?_
  refine wv_iadd (nI ((6 * n) + 1)) (wN_add rfl rfl) dL_law_672 ?_
  refine wp_sld ((6 * n) + 1) hb (mLw_X nn b L xs) dL_law_673 rfl (by omega) (by omega) ?_
  refine wp_aload_n dL_law_674 rfl 0 rfl ?_
  refine wp_iload_n dL_law_675 rfl 3 rfl ?_
  refine wp_iconst (v := 2) dL_law_676 (by decide) ?_
  refine wv_iadd (nI ((6 * n) + 2)) (wN_add rfl rfl) dL_law_677 ?_
  refine wp_sld ((6 * n) + 2) hb (mLw_X nn b L xs) dL_law_678 rfl (by omega) (by omega) ?_
  refine wp_i2l dL_law_679 ?_
  refine wp_bipush (v := 32) dL_law_680 (by decide) ?_
  refine wp_lshl dL_law_682 rfl ?_
  refine wp_aload_n dL_law_683 rfl 0 rfl ?_
  refine wp_pc (pc' := 684) rfl ?_
  refine wp_iload_n dL_law_684 rfl 3 rfl ?_
  refine wp_iconst (v := 3) dL_law_685 (by decide) ?_
  refine wv_iadd (nI ((6 * n) + 3)) (wN_add rfl rfl) dL_law_686 ?_
  refine wp_sld ((6 * n) + 3) hb (mLw_X nn b L xs) dL_law_687 rfl (by omega) (by omega) ?_
  refine wp_i2l dL_law_688 ?_
  refine wp_ldc2 dL_law_689 cnL_27 ?_
  refine wp_land dL_law_692 ?_
  refine wp_lor dL_law_693 ?_
  refine wp_callV mX6_votes 1 [.int (xs ((6 * n) + 1)), .long (((Int32.toInt64 (xs ((6 * n) + 2))) <<< ((32 : Int32).toInt64 &&& 63)) ||| ((Int32.toInt64 (xs ((6 * n) + 3))) &&& 4294967295))] [] (c := 6) dL_law_694 iX6_votes (fun _ => trivial) mlL_72 imX6_votes seX6_votes (by decide) rfl rfl ⟨(Nat.le_of_ble_eq_true rfl), (Nat.le_of_ble_eq_true rfl)⟩ rfl rfl (Nat.le_of_ble_eq_true rfl) (Nat.le_of_ble_eq_true rfl) (by show cs + 0 ≤ 600000; omega) (by show ss + 0 ≤ 7302250; omega) ?_
  refine ct_post (op_votes hI (by omega) (xs ((6 * n) + 1)) (((Int32.toInt64 (xs ((6 * n) + 2))) <<< ((32 : Int32).toInt64 &&& 63)) ||| ((Int32.toInt64 (xs ((6 * n) + 3))) &&& 4294967295))) (fun v h1 hv => ?_)
  obtain ⟨r, rfl, hc⟩ := hv
  show WP g (mLw nn b L xs) 697 [(0, .ref 50), (1, .ref 1), (2, .ref 100), (3, .int (nI (6 * n)))] [.long r] _ (cs + 0) (ss + 0) _
  refine wp_aload_n dL_law_697 rfl 2 rfl ?_
  refine wp_aload_n dL_law_698 rfl 0 rfl ?_
  refine wp_iload_n dL_law_699 rfl 3 rfl ?_
  refine wp_iconst (v := 1) dL_law_700 (by decide) ?_
  refine wv_iadd (nI ((6 * n) + 1)) (wN_add rfl rfl) dL_law_701 ?_
  refine wp_sld ((6 * n) + 1) hb (mLw_X nn b L xs) dL_law_702 rfl (by omega) (by omega) ?_
  refine wp_pc (pc' := 703) rfl ?_
  refine wp_aload_n dL_law_703 rfl 0 rfl ?_
  refine wp_iload_n dL_law_704 rfl 3 rfl ?_
  refine wp_iconst (v := 2) dL_law_705 (by decide) ?_
  refine wv_iadd (nI ((6 * n) + 2)) (wN_add rfl rfl) dL_law_706 ?_
  refine wp_sld ((6 * n) + 2) hb (mLw_X nn b L xs) dL_law_707 rfl (by omega) (by omega) ?_
  refine wp_i2l dL_law_708 ?_
  refine wp_bipush (v := 32) dL_law_709 (by decide) ?_
  refine wp_lshl dL_law_711 rfl ?_
  refine wp_aload_n dL_law_712 rfl 0 rfl ?_
  refine wp_iload_n dL_law_713 rfl 3 rfl ?_
  refine wp_iconst (v := 3) dL_law_714 (by decide) ?_
  refine wv_iadd (nI ((6 * n) + 3)) (wN_add rfl rfl) dL_law_715 ?_
  refine wp_sld ((6 * n) + 3) hb (mLw_X nn b L xs) dL_law_716 rfl (by omega) (by omega) ?_
  refine wp_i2l dL_law_717 ?_
  refine wp_ldc2 dL_law_718 cnL_27 ?_
  refine wp_pc (pc' := 721) rfl ?_
  refine wp_land dL_law_721 ?_
  refine wp_lor dL_law_722 ?_
  refine wp_callV mX7_votes 100 [.int (xs ((6 * n) + 1)), .long (((Int32.toInt64 (xs ((6 * n) + 2))) <<< ((32 : Int32).toInt64 &&& 63)) ||| ((Int32.toInt64 (xs ((6 * n) + 3))) &&& 4294967295))] [.long r] (c := 7) dL_law_723 iX7_votes (fun _ => trivial) mlL_76 imX7_votes seX7_votes (by decide) rfl rfl ⟨(Nat.le_of_ble_eq_true rfl), (Nat.le_of_ble_eq_true rfl)⟩ rfl rfl (Nat.le_of_ble_eq_true rfl) (Nat.le_of_ble_eq_true rfl) (by show cs + 0 + 0 ≤ 600000; omega) (by show ss + 0 + 0 ≤ 7302250; omega) ?_
  refine ct_post hc (fun v h2 hv => ?_)
  obtain ⟨rfl, hI2⟩ := hv
  show WP g (mLw nn b L xs) 726 [(0, .ref 50), (1, .ref 1), (2, .ref 100), (3, .int (nI (6 * n)))] [.long r, .long r] _ (cs + 0 + 0) (ss + 0 + 0) _
  refine wil_eq (tgt := 1128) (Int64.toInt r) (Int64.toInt r) rfl rfl dL_law_726 dL_law_727 (by decide) (fun _ => ?_) (fun c_1 => absurd rfl c_1)
  refine wp_sub [0, 1, 2, 3] rfl ?_
  exact hback h2 _ _ hI2 (by show cs + 0 + 0 ≤ cs + 3; omega) (by show ss + 0 + 0 ≤ ss + 30; omega)
set_option maxRecDepth 100000 in
set_option maxHeartbeats 4000000 in
theorem law_council {g : GG} {Post : Option Value → HP → Prop} {nn : String} {b L : Nat} {xs : Nat → Int32} (hb : g.2.2 15 = b) (hL : L ≤ 384) {n : Nat} {h : HP} {nm nl ns ne nk : Nat} {fr to : Nat → Nat} {E : Nat → Nat → Prop} (hI : IV n h nm nl ns ne nk fr to E) {cs ss : Nat} (h6 : 6 * n + 6 ≤ L) (hcs : cs + 3 ≤ 600000) (hss : ss + 30 ≤ 7302250) (hback : ∀ h2 cs2 ss2, Inv (n + 1) h2 → cs2 ≤ cs + 3 → ss2 ≤ ss + 30 → WP g (mLw nn b L xs) 1128 [(0, .ref 50), (1, .ref 1), (2, .ref 100), (3, .int (nI (6 * n)))] [] h2 cs2 ss2 Post) : WP g (mLw nn b L xs) 732 [(0, .ref 50), (1, .ref 1), (2, .ref 100), (3, .int (nI (6 * n)))] [] h cs ss Post := by
  refine wp_aload_n dL_law_732 rfl 1 rfl ?_
  refine wp_aload_n dL_law_733 rfl 0 rfl ?_
  refine wp_iload_n dL_law_734 rfl 3 rfl ?_
  refine wp_iconst (v := 1) dL_law_735 (by decide) ?_
  refine wv_iadd (nI ((6 * n) + 1)) (wN_add rfl rfl) dL_law_736 ?_
  refine wp_sld ((6 * n) + 1) hb (mLw_X nn b L xs) dL_law_737 rfl (by omega) (by omega) ?_
  refine wp_aload_n dL_law_738 rfl 0 rfl ?_
  refine wp_iload_n dL_law_739 rfl 3 rfl ?_
  refine wp_iconst (v := 2) dL_law_740 (by decide) ?_
  refine wv_iadd (nI ((6 * n) + 2)) (wN_add rfl rfl) dL_law_741 ?_
  refine wp_sld ((6 * n) + 2) hb (mLw_X nn b L xs) dL_law_742 rfl (by omega) (by omega) ?_
  refine wp_aload_n dL_law_743 rfl 0 rfl ?_
  refine wp_iload_n dL_law_744 rfl 3 rfl ?_
  refine wp_iconst (v := 3) dL_law_745 (by decide) ?_
  refine wv_iadd (nI ((6 * n) + 3)) (wN_add rfl rfl) dL_law_746 ?_
  refine wp_pc (pc' := 747) rfl ?_
  refine wp_sld ((6 * n) + 3) hb (mLw_X nn b L xs) dL_law_747 rfl (by omega) (by omega) ?_
  refine wp_callV mX6_council 1 [.int (xs ((6 * n) + 1)), .int (xs ((6 * n) + 2)), .int (xs ((6 * n) + 3))] [] (c := 6) dL_law_748 iX6_council (fun _ => trivial) mlL_77 imX6_council seX6_council (by decide) rfl rfl ⟨(Nat.le_of_ble_eq_true rfl), (Nat.le_of_ble_eq_true rfl)⟩ rfl rfl (Nat.le_of_ble_eq_true rfl) (Nat.le_of_ble_eq_true rfl) (by show cs + 0 ≤ 600000; omega) (by show ss + 0 ≤ 7302250; omega) ?_
  refine ct_post (op_council hI (by omega) (xs ((6 * n) + 1)) (xs ((6 * n) + 2)) (xs ((6 * n) + 3))) (fun v h1 hv => ?_)
  obtain ⟨r, rfl, hc⟩ := hv
  show WP g (mLw nn b L xs) 751 [(0, .ref 50), (1, .ref 1), (2, .ref 100), (3, .int (nI (6 * n)))] [.long r] _ (cs + 0) (ss + 0) _
  refine wp_aload_n dL_law_751 rfl 2 rfl ?_
  refine wp_aload_n dL_law_752 rfl 0 rfl ?_
  refine wp_iload_n dL_law_753 rfl 3 rfl ?_
  refine wp_iconst (v := 1) dL_law_754 (by decide) ?_
  refine wv_iadd (nI ((6 * n) + 1)) (wN_add rfl rfl) dL_law_755 ?_
  refine wp_sld ((6 * n) + 1) hb (mLw_X nn b L xs) dL_law_756 rfl (by omega) (by omega) ?_
  refine wp_aload_n dL_law_757 rfl 0 rfl ?_
  refine wp_iload_n dL_law_758 rfl 3 rfl ?_
  refine wp_iconst (v := 2) dL_law_759 (by decide) ?_
  refine wv_iadd (nI ((6 * n) + 2)) (wN_add rfl rfl) dL_law_760 ?_
  refine wp_sld ((6 * n) + 2) hb (mLw_X nn b L xs) dL_law_761 rfl (by omega) (by omega) ?_
  refine wp_aload_n dL_law_762 rfl 0 rfl ?_
  refine wp_iload_n dL_law_763 rfl 3 rfl ?_
  refine wp_pc (pc' := 764) rfl ?_
  refine wp_iconst (v := 3) dL_law_764 (by decide) ?_
  refine wv_iadd (nI ((6 * n) + 3)) (wN_add rfl rfl) dL_law_765 ?_
  refine wp_sld ((6 * n) + 3) hb (mLw_X nn b L xs) dL_law_766 rfl (by omega) (by omega) ?_
  refine wp_callV mX7_council 100 [.int (xs ((6 * n) + 1)), .int (xs ((6 * n) + 2)), .int (xs ((6 * n) + 3))] [.long r] (c := 7) dL_law_767 iX7_council (fun _ => trivial) mlL_80 imX7_council seX7_council (by decide) rfl rfl ⟨(Nat.le_of_ble_eq_true rfl), (Nat.le_of_ble_eq_true rfl)⟩ rfl rfl (Nat.le_of_ble_eq_true rfl) (Nat.le_of_ble_eq_true rfl) (by show cs + 0 + 0 ≤ 600000; omega) (by show ss + 0 + 0 ≤ 7302250; omega) ?_
  refine ct_post hc (fun v h2 hv => ?_)
  obtain ⟨rfl, hI2⟩ := hv
  show WP g (mLw nn b L xs) 770 [(0, .ref 50), (1, .ref 1), (2, .ref 100), (3, .int (nI (6 * n)))] [.long r, .long r] _ (cs + 0 + 0) (ss + 0 + 0) _
  refine wil_eq (tgt := 1128) (Int64.toInt r) (Int64.toInt r) rfl rfl dL_law_770 dL_law_771 (by decide) (fun _ => ?_) (fun c_1 => absurd rfl c_1)
  refine wp_sub [0, 1, 2, 3] rfl ?_
  exact hback h2 _ _ hI2 (by show cs + 0 + 0 ≤ cs + 3; omega) (by show ss + 0 + 0 ≤ ss + 30; omega)
set_option maxRecDepth 100000 in
set_option maxHeartbeats 4000000 in
theorem law_meet {g : GG} {Post : Option Value → HP → Prop} {nn : String} {b L : Nat} {xs : Nat → Int32} (hb : g.2.2 15 = b) (hL : L ≤ 384) {n : Nat} {h : HP} {nm nl ns ne nk : Nat} {fr to : Nat → Nat} {E : Nat → Nat → Prop} (hI : IV n h nm nl ns ne nk fr to E) {cs ss : Nat} (h6 : 6 * n + 6 ≤ L) (hcs : cs + 3 ≤ 600000) (hss : ss + 30 ≤ 7302250) (hback : ∀ h2 cs2 ss2, Inv (n + 1) h2 → cs2 ≤ cs + 3 → ss2 ≤ ss + 30 → WP g (mLw nn b L xs) 1128 [(0, .ref 50), (1, .ref 1), (2, .ref 100), (3, .int (nI (6 * n)))] [] h2 cs2 ss2 Post) : WP g (mLw nn b L xs) 776 [(0, .ref 50), (1, .ref 1), (2, .ref 100), (3, .int (nI (6 * n)))] [] h cs ss Post := by
  refine wp_aload_n dL_law_776 rfl 1 rfl ?_
  refine wp_aload_n dL_law_777 rfl 0 rfl ?_
  refine wp_iload_n dL_law_778 rfl 3 rfl ?_
  refine wp_iconst (v := 1) dL_law_779 (by decide) ?_
  refine wv_iadd (nI ((6 * n) + 1)) (wN_add rfl rfl) dL_law_780 ?_
  refine wp_sld ((6 * n) + 1) hb (mLw_X nn b L xs) dL_law_781 rfl (by omega) (by omega) ?_
  refine wp_aload_n dL_law_782 rfl 0 rfl ?_
  refine wp_iload_n dL_law_783 rfl 3 rfl ?_
  refine wp_iconst (v := 2) dL_law_784 (by decide) ?_
  refine wv_iadd (nI ((6 * n) + 2)) (wN_add rfl rfl) dL_law_785 ?_
  refine wp_sld ((6 * n) + 2) hb (mLw_X nn b L xs) dL_law_786 rfl (by omega) (by omega) ?_
  refine wp_callV mX6_meet 1 [.int (xs ((6 * n) + 1)), .int (xs ((6 * n) + 2))] [] (c := 6) dL_law_787 iX6_meet (fun _ => trivial) mlL_81 imX6_meet seX6_meet (by decide) rfl rfl ⟨(Nat.le_of_ble_eq_true rfl), (Nat.le_of_ble_eq_true rfl)⟩ rfl rfl (Nat.le_of_ble_eq_true rfl) (Nat.le_of_ble_eq_true rfl) (by show cs + 0 ≤ 600000; omega) (by show ss + 0 ≤ 7302250; omega) ?_
  refine ct_post (op_meet hI (by omega) (xs ((6 * n) + 1)) (xs ((6 * n) + 2))) (fun v h1 hv => ?_)
  obtain ⟨r, rfl, hc⟩ := hv
  show WP g (mLw nn b L xs) 790 [(0, .ref 50), (1, .ref 1), (2, .ref 100), (3, .int (nI (6 * n)))] [.long r] _ (cs + 0) (ss + 0) _
  refine wp_aload_n dL_law_790 rfl 2 rfl ?_
  refine wp_aload_n dL_law_791 rfl 0 rfl ?_
  refine wp_iload_n dL_law_792 rfl 3 rfl ?_
  refine wp_pc (pc' := 793) rfl ?_
  refine wp_iconst (v := 1) dL_law_793 (by decide) ?_
  refine wv_iadd (nI ((6 * n) + 1)) (wN_add rfl rfl) dL_law_794 ?_
  refine wp_sld ((6 * n) + 1) hb (mLw_X nn b L xs) dL_law_795 rfl (by omega) (by omega) ?_
  refine wp_aload_n dL_law_796 rfl 0 rfl ?_
  refine wp_iload_n dL_law_797 rfl 3 rfl ?_
  refine wp_iconst (v := 2) dL_law_798 (by decide) ?_
  refine wv_iadd (nI ((6 * n) + 2)) (wN_add rfl rfl) dL_law_799 ?_
  refine wp_sld ((6 * n) + 2) hb (mLw_X nn b L xs) dL_law_800 rfl (by omega) (by omega) ?_
  refine wp_callV mX7_meet 100 [.int (xs ((6 * n) + 1)), .int (xs ((6 * n) + 2))] [.long r] (c := 7) dL_law_801 iX7_meet (fun _ => trivial) mlL_84 imX7_meet seX7_meet (by decide) rfl rfl ⟨(Nat.le_of_ble_eq_true rfl), (Nat.le_of_ble_eq_true rfl)⟩ rfl rfl (Nat.le_of_ble_eq_true rfl) (Nat.le_of_ble_eq_true rfl) (by show cs + 0 + 0 ≤ 600000; omega) (by show ss + 0 + 0 ≤ 7302250; omega) ?_
  refine ct_post hc (fun v h2 hv => ?_)
  obtain ⟨rfl, hI2⟩ := hv
  show WP g (mLw nn b L xs) 804 [(0, .ref 50), (1, .ref 1), (2, .ref 100), (3, .int (nI (6 * n)))] [.long r, .long r] _ (cs + 0 + 0) (ss + 0 + 0) _
  refine wil_eq (tgt := 1128) (Int64.toInt r) (Int64.toInt r) rfl rfl dL_law_804 dL_law_805 (by decide) (fun _ => ?_) (fun c_1 => absurd rfl c_1)
  refine wp_sub [0, 1, 2, 3] rfl ?_
  exact hback h2 _ _ hI2 (by show cs + 0 + 0 ≤ cs + 3; omega) (by show ss + 0 + 0 ≤ ss + 30; omega)
set_option maxRecDepth 100000 in
set_option maxHeartbeats 4000000 in
theorem law_lead {g : GG} {Post : Option Value → HP → Prop} {nn : String} {b L : Nat} {xs : Nat → Int32} (hb : g.2.2 15 = b) (hL : L ≤ 384) {n : Nat} {h : HP} {nm nl ns ne nk : Nat} {fr to : Nat → Nat} {E : Nat → Nat → Prop} (hI : IV n h nm nl ns ne nk fr to E) {cs ss : Nat} (h6 : 6 * n + 6 ≤ L) (hcs : cs + 3 ≤ 600000) (hss : ss + 30 ≤ 7302250) (hback : ∀ h2 cs2 ss2, Inv (n + 1) h2 → cs2 ≤ cs + 3 → ss2 ≤ ss + 30 → WP g (mLw nn b L xs) 1128 [(0, .ref 50), (1, .ref 1), (2, .ref 100), (3, .int (nI (6 * n)))] [] h2 cs2 ss2 Post) : WP g (mLw nn b L xs) 810 [(0, .ref 50), (1, .ref 1), (2, .ref 100), (3, .int (nI (6 * n)))] [] h cs ss Post := by
  refine wp_aload_n dL_law_810 rfl 1 rfl ?_
  refine wp_aload_n dL_law_811 rfl 0 rfl ?_
  refine wp_iload_n dL_law_812 rfl 3 rfl ?_
  refine wp_iconst (v := 1) dL_law_813 (by decide) ?_
  refine wv_iadd (nI ((6 * n) + 1)) (wN_add rfl rfl) dL_law_814 ?_
  refine wp_sld ((6 * n) + 1) hb (mLw_X nn b L xs) dL_law_815 rfl (by omega) (by omega) ?_
  refine wp_aload_n dL_law_816 rfl 0 rfl ?_
  refine wp_iload_n dL_law_817 rfl 3 rfl ?_
  refine wp_iconst (v := 2) dL_law_818 (by decide) ?_
  refine wv_iadd (nI ((6 * n) + 2)) (wN_add rfl rfl) dL_law_819 ?_
  refine wp_sld ((6 * n) + 2) hb (mLw_X nn b L xs) dL_law_820 rfl (by omega) (by omega) ?_
  refine wp_callV mX6_lead 1 [.int (xs ((6 * n) + 1)), .int (xs ((6 * n) + 2))] [] (c := 6) dL_law_821 iX6_lead (fun _ => trivial) mlL_85 imX6_lead seX6_lead (by decide) rfl rfl ⟨(Nat.le_of_ble_eq_true rfl), (Nat.le_of_ble_eq_true rfl)⟩ rfl rfl (Nat.le_of_ble_eq_true rfl) (Nat.le_of_ble_eq_true rfl) (by show cs + 0 ≤ 600000; omega) (by show ss + 0 ≤ 7302250; omega) ?_
  refine ct_post (op_lead hI (by omega) (xs ((6 * n) + 1)) (xs ((6 * n) + 2))) (fun v h1 hv => ?_)
  obtain ⟨r, rfl, hc⟩ := hv
  show WP g (mLw nn b L xs) 824 [(0, .ref 50), (1, .ref 1), (2, .ref 100), (3, .int (nI (6 * n)))] [.long r] _ (cs + 0) (ss + 0) _
  refine wp_aload_n dL_law_824 rfl 2 rfl ?_
  refine wp_aload_n dL_law_825 rfl 0 rfl ?_
  refine wp_iload_n dL_law_826 rfl 3 rfl ?_
  refine wp_pc (pc' := 827) rfl ?_
  refine wp_iconst (v := 1) dL_law_827 (by decide) ?_
  refine wv_iadd (nI ((6 * n) + 1)) (wN_add rfl rfl) dL_law_828 ?_
  refine wp_sld ((6 * n) + 1) hb (mLw_X nn b L xs) dL_law_829 rfl (by omega) (by omega) ?_
  refine wp_aload_n dL_law_830 rfl 0 rfl ?_
  refine wp_iload_n dL_law_831 rfl 3 rfl ?_
  refine wp_iconst (v := 2) dL_law_832 (by decide) ?_
  refine wv_iadd (nI ((6 * n) + 2)) (wN_add rfl rfl) dL_law_833 ?_
  refine wp_sld ((6 * n) + 2) hb (mLw_X nn b L xs) dL_law_834 rfl (by omega) (by omega) ?_
  refine wp_callV mX7_lead 100 [.int (xs ((6 * n) + 1)), .int (xs ((6 * n) + 2))] [.long r] (c := 7) dL_law_835 iX7_lead (fun _ => trivial) mlL_88 imX7_lead seX7_lead (by decide) rfl rfl ⟨(Nat.le_of_ble_eq_true rfl), (Nat.le_of_ble_eq_true rfl)⟩ rfl rfl (Nat.le_of_ble_eq_true rfl) (Nat.le_of_ble_eq_true rfl) (by show cs + 0 + 0 ≤ 600000; omega) (by show ss + 0 + 0 ≤ 7302250; omega) ?_
  refine ct_post hc (fun v h2 hv => ?_)
  obtain ⟨rfl, hI2⟩ := hv
  show WP g (mLw nn b L xs) 838 [(0, .ref 50), (1, .ref 1), (2, .ref 100), (3, .int (nI (6 * n)))] [.long r, .long r] _ (cs + 0 + 0) (ss + 0 + 0) _
  refine wil_eq (tgt := 1128) (Int64.toInt r) (Int64.toInt r) rfl rfl dL_law_838 dL_law_839 (by decide) (fun _ => ?_) (fun c_1 => absurd rfl c_1)
  refine wp_sub [0, 1, 2, 3] rfl ?_
  exact hback h2 _ _ hI2 (by show cs + 0 + 0 ≤ cs + 3; omega) (by show ss + 0 + 0 ≤ ss + 30; omega)
set_option maxRecDepth 100000 in
set_option maxHeartbeats 4000000 in
theorem law_stamp {g : GG} {Post : Option Value → HP → Prop} {nn : String} {b L : Nat} {xs : Nat → Int32} (hb : g.2.2 15 = b) (hL : L ≤ 384) {n : Nat} {h : HP} {nm nl ns ne nk : Nat} {fr to : Nat → Nat} {E : Nat → Nat → Prop} (hI : IV n h nm nl ns ne nk fr to E) {cs ss : Nat} (h6 : 6 * n + 6 ≤ L) (hcs : cs + 3 ≤ 600000) (hss : ss + 30 ≤ 7302250) (hback : ∀ h2 cs2 ss2, Inv (n + 1) h2 → cs2 ≤ cs + 3 → ss2 ≤ ss + 30 → WP g (mLw nn b L xs) 1128 [(0, .ref 50), (1, .ref 1), (2, .ref 100), (3, .int (nI (6 * n)))] [] h2 cs2 ss2 Post) : WP g (mLw nn b L xs) 844 [(0, .ref 50), (1, .ref 1), (2, .ref 100), (3, .int (nI (6 * n)))] [] h cs ss Post := by
  refine wp_aload_n dL_law_844 rfl 1 rfl ?_
  refine wp_aload_n dL_law_845 rfl 0 rfl ?_
  refine wp_iload_n dL_law_846 rfl 3 rfl ?_
  refine wp_iconst (v := 1) dL_law_847 (by decide) ?_
  refine wv_iadd (nI ((6 * n) + 1)) (wN_add rfl rfl) dL_law_848 ?_
  refine wp_sld ((6 * n) + 1) hb (mLw_X nn b L xs) dL_law_849 rfl (by omega) (by omega) ?_
  refine wp_callV mX6_stamp 1 [.int (xs ((6 * n) + 1))] [] (c := 6) dL_law_850 iX6_stamp (fun _ => trivial) mlL_89 imX6_stamp seX6_stamp (by decide) rfl rfl ⟨(Nat.le_of_ble_eq_true rfl), (Nat.le_of_ble_eq_true rfl)⟩ rfl rfl (Nat.le_of_ble_eq_true rfl) (Nat.le_of_ble_eq_true rfl) (by show cs + 1 ≤ 600000; omega) (by show ss + 4 ≤ 7302250; omega) ?_
  refine ct_post (op_stamp hI (by omega) (xs ((6 * n) + 1))) (fun v h1 hv => ?_)
  obtain ⟨r, rfl, hc⟩ := hv
  show WP g (mLw nn b L xs) 853 [(0, .ref 50), (1, .ref 1), (2, .ref 100), (3, .int (nI (6 * n)))] [.long r] _ (cs + 1) (ss + 4) _
  refine wp_aload_n dL_law_853 rfl 2 rfl ?_
  refine wp_aload_n dL_law_854 rfl 0 rfl ?_
  refine wp_iload_n dL_law_855 rfl 3 rfl ?_
  refine wp_iconst (v := 1) dL_law_856 (by decide) ?_
  refine wv_iadd (nI ((6 * n) + 1)) (wN_add rfl rfl) dL_law_857 ?_
  refine wp_sld ((6 * n) + 1) hb (mLw_X nn b L xs) dL_law_858 rfl (by omega) (by omega) ?_
  refine wp_callV mX7_stamp 100 [.int (xs ((6 * n) + 1))] [.long r] (c := 7) dL_law_859 iX7_stamp (fun _ => trivial) mlL_92 imX7_stamp seX7_stamp (by decide) rfl rfl ⟨(Nat.le_of_ble_eq_true rfl), (Nat.le_of_ble_eq_true rfl)⟩ rfl rfl (Nat.le_of_ble_eq_true rfl) (Nat.le_of_ble_eq_true rfl) (by show cs + 1 + 0 ≤ 600000; omega) (by show ss + 4 + 0 ≤ 7302250; omega) ?_
  refine ct_post hc (fun v h2 hv => ?_)
  obtain ⟨rfl, hI2⟩ := hv
  show WP g (mLw nn b L xs) 862 [(0, .ref 50), (1, .ref 1), (2, .ref 100), (3, .int (nI (6 * n)))] [.long r, .long r] _ (cs + 1 + 0) (ss + 4 + 0) _
  refine wil_eq (tgt := 1128) (Int64.toInt r) (Int64.toInt r) rfl rfl dL_law_862 dL_law_863 (by decide) (fun _ => ?_) (fun c_1 => absurd rfl c_1)
  refine wp_pc (pc' := 1128) rfl ?_
  refine wp_sub [0, 1, 2, 3] rfl ?_
  exact hback h2 _ _ hI2 (by show cs + 1 + 0 ≤ cs + 3; omega) (by show ss + 4 + 0 ≤ ss + 30; omega)
set_option maxRecDepth 100000 in
set_option maxHeartbeats 4000000 in
theorem law_given {g : GG} {Post : Option Value → HP → Prop} {nn : String} {b L : Nat} {xs : Nat → Int32} (hb : g.2.2 15 = b) (hL : L ≤ 384) {n : Nat} {h : HP} {nm nl ns ne nk : Nat} {fr to : Nat → Nat} {E : Nat → Nat → Prop} (hI : IV n h nm nl ns ne nk fr to E) {cs ss : Nat} (h6 : 6 * n + 6 ≤ L) (hcs : cs + 3 ≤ 600000) (hss : ss + 30 ≤ 7302250) (hback : ∀ h2 cs2 ss2, Inv (n + 1) h2 → cs2 ≤ cs + 3 → ss2 ≤ ss + 30 → WP g (mLw nn b L xs) 1128 [(0, .ref 50), (1, .ref 1), (2, .ref 100), (3, .int (nI (6 * n)))] [] h2 cs2 ss2 Post) : WP g (mLw nn b L xs) 868 [(0, .ref 50), (1, .ref 1), (2, .ref 100), (3, .int (nI (6 * n)))] [] h cs ss Post := by
  refine wp_aload_n dL_law_868 rfl 1 rfl ?_
  refine wp_aload_n dL_law_869 rfl 0 rfl ?_
  refine wp_iload_n dL_law_870 rfl 3 rfl ?_
  refine wp_iconst (v := 1) dL_law_871 (by decide) ?_
  refine wv_iadd (nI ((6 * n) + 1)) (wN_add rfl rfl) dL_law_872 ?_
  refine wp_sld ((6 * n) + 1) hb (mLw_X nn b L xs) dL_law_873 rfl (by omega) (by omega) ?_
  refine wp_aload_n dL_law_874 rfl 0 rfl ?_
  refine wp_iload_n dL_law_875 rfl 3 rfl ?_
  refine wp_iconst (v := 2) dL_law_876 (by decide) ?_
  refine wv_iadd (nI ((6 * n) + 2)) (wN_add rfl rfl) dL_law_877 ?_
  refine wp_sld ((6 * n) + 2) hb (mLw_X nn b L xs) dL_law_878 rfl (by omega) (by omega) ?_
  refine wp_callV mX6_given 1 [.int (xs ((6 * n) + 1)), .int (xs ((6 * n) + 2))] [] (c := 6) dL_law_879 iX6_given (fun _ => trivial) mlL_93 imX6_given seX6_given (by decide) rfl rfl ⟨(Nat.le_of_ble_eq_true rfl), (Nat.le_of_ble_eq_true rfl)⟩ rfl rfl (Nat.le_of_ble_eq_true rfl) (Nat.le_of_ble_eq_true rfl) (by show cs + 0 ≤ 600000; omega) (by show ss + 0 ≤ 7302250; omega) ?_
  refine ct_post (op_given hI (by omega) (xs ((6 * n) + 1)) (xs ((6 * n) + 2))) (fun v h1 hv => ?_)
  obtain ⟨r, rfl, hc⟩ := hv
  show WP g (mLw nn b L xs) 882 [(0, .ref 50), (1, .ref 1), (2, .ref 100), (3, .int (nI (6 * n)))] [.long r] _ (cs + 0) (ss + 0) _
  refine wp_aload_n dL_law_882 rfl 2 rfl ?_
  refine wp_aload_n dL_law_883 rfl 0 rfl ?_
  refine wp_iload_n dL_law_884 rfl 3 rfl ?_
  refine wp_pc (pc' := 885) rfl ?_
  refine wp_iconst (v := 1) dL_law_885 (by decide) ?_
  refine wv_iadd (nI ((6 * n) + 1)) (wN_add rfl rfl) dL_law_886 ?_
  refine wp_sld ((6 * n) + 1) hb (mLw_X nn b L xs) dL_law_887 rfl (by omega) (by omega) ?_
  refine wp_aload_n dL_law_888 rfl 0 rfl ?_
  refine wp_iload_n dL_law_889 rfl 3 rfl ?_
  refine wp_iconst (v := 2) dL_law_890 (by decide) ?_
  refine wv_iadd (nI ((6 * n) + 2)) (wN_add rfl rfl) dL_law_891 ?_
  refine wp_sld ((6 * n) + 2) hb (mLw_X nn b L xs) dL_law_892 rfl (by omega) (by omega) ?_
  refine wp_callV mX7_given 100 [.int (xs ((6 * n) + 1)), .int (xs ((6 * n) + 2))] [.long r] (c := 7) dL_law_893 iX7_given (fun _ => trivial) mlL_96 imX7_given seX7_given (by decide) rfl rfl ⟨(Nat.le_of_ble_eq_true rfl), (Nat.le_of_ble_eq_true rfl)⟩ rfl rfl (Nat.le_of_ble_eq_true rfl) (Nat.le_of_ble_eq_true rfl) (by show cs + 0 + 0 ≤ 600000; omega) (by show ss + 0 + 0 ≤ 7302250; omega) ?_
  refine ct_post hc (fun v h2 hv => ?_)
  obtain ⟨rfl, hI2⟩ := hv
  show WP g (mLw nn b L xs) 896 [(0, .ref 50), (1, .ref 1), (2, .ref 100), (3, .int (nI (6 * n)))] [.long r, .long r] _ (cs + 0 + 0) (ss + 0 + 0) _
  refine wil_eq (tgt := 1128) (Int64.toInt r) (Int64.toInt r) rfl rfl dL_law_896 dL_law_897 (by decide) (fun _ => ?_) (fun c_1 => absurd rfl c_1)
  refine wp_sub [0, 1, 2, 3] rfl ?_
  exact hback h2 _ _ hI2 (by show cs + 0 + 0 ≤ cs + 3; omega) (by show ss + 0 + 0 ≤ ss + 30; omega)
set_option maxRecDepth 100000 in
set_option maxHeartbeats 4000000 in
theorem law_ahead {g : GG} {Post : Option Value → HP → Prop} {nn : String} {b L : Nat} {xs : Nat → Int32} (hb : g.2.2 15 = b) (hL : L ≤ 384) {n : Nat} {h : HP} {nm nl ns ne nk : Nat} {fr to : Nat → Nat} {E : Nat → Nat → Prop} (hI : IV n h nm nl ns ne nk fr to E) {cs ss : Nat} (h6 : 6 * n + 6 ≤ L) (hcs : cs + 3 ≤ 600000) (hss : ss + 30 ≤ 7302250) (hback : ∀ h2 cs2 ss2, Inv (n + 1) h2 → cs2 ≤ cs + 3 → ss2 ≤ ss + 30 → WP g (mLw nn b L xs) 1128 [(0, .ref 50), (1, .ref 1), (2, .ref 100), (3, .int (nI (6 * n)))] [] h2 cs2 ss2 Post) : WP g (mLw nn b L xs) 902 [(0, .ref 50), (1, .ref 1), (2, .ref 100), (3, .int (nI (6 * n)))] [] h cs ss Post := by
  refine wp_aload_n dL_law_902 rfl 1 rfl ?_
  refine wp_aload_n dL_law_903 rfl 0 rfl ?_
  refine wp_iload_n dL_law_904 rfl 3 rfl ?_
  refine wp_iconst (v := 1) dL_law_905 (by decide) ?_
  refine wv_iadd (nI ((6 * n) + 1)) (wN_add rfl rfl) dL_law_906 ?_
  refine wp_sld ((6 * n) + 1) hb (mLw_X nn b L xs) dL_law_907 rfl (by omega) (by omega) ?_
  refine wp_aload_n dL_law_908 rfl 0 rfl ?_
  refine wp_iload_n dL_law_909 rfl 3 rfl ?_
  refine wp_iconst (v := 2) dL_law_910 (by decide) ?_
  refine wv_iadd (nI ((6 * n) + 2)) (wN_add rfl rfl) dL_law_911 ?_
  refine wp_sld ((6 * n) + 2) hb (mLw_X nn b L xs) dL_law_912 rfl (by omega) (by omega) ?_
  refine wp_callV mX6_ahead 1 [.int (xs ((6 * n) + 1)), .int (xs ((6 * n) + 2))] [] (c := 6) dL_law_913 iX6_ahead (fun _ => trivial) mlL_97 imX6_ahead seX6_ahead (by decide) rfl rfl ⟨(Nat.le_of_ble_eq_true rfl), (Nat.le_of_ble_eq_true rfl)⟩ rfl rfl (Nat.le_of_ble_eq_true rfl) (Nat.le_of_ble_eq_true rfl) (by show cs + 0 ≤ 600000; omega) (by show ss + 0 ≤ 7302250; omega) ?_
  refine ct_post (op_ahead hI (by omega) (xs ((6 * n) + 1)) (xs ((6 * n) + 2))) (fun v h1 hv => ?_)
  obtain ⟨r, rfl, hc⟩ := hv
  show WP g (mLw nn b L xs) 916 [(0, .ref 50), (1, .ref 1), (2, .ref 100), (3, .int (nI (6 * n)))] [.long r] _ (cs + 0) (ss + 0) _
  refine wp_aload_n dL_law_916 rfl 2 rfl ?_
  refine wp_aload_n dL_law_917 rfl 0 rfl ?_
  refine wp_iload_n dL_law_918 rfl 3 rfl ?_
  refine wp_pc (pc' := 919) rfl ?_
  refine wp_iconst (v := 1) dL_law_919 (by decide) ?_
  refine wv_iadd (nI ((6 * n) + 1)) (wN_add rfl rfl) dL_law_920 ?_
  refine wp_sld ((6 * n) + 1) hb (mLw_X nn b L xs) dL_law_921 rfl (by omega) (by omega) ?_
  refine wp_aload_n dL_law_922 rfl 0 rfl ?_
  refine wp_iload_n dL_law_923 rfl 3 rfl ?_
  refine wp_iconst (v := 2) dL_law_924 (by decide) ?_
  refine wv_iadd (nI ((6 * n) + 2)) (wN_add rfl rfl) dL_law_925 ?_
  refine wp_sld ((6 * n) + 2) hb (mLw_X nn b L xs) dL_law_926 rfl (by omega) (by omega) ?_
  refine wp_callV mX7_ahead 100 [.int (xs ((6 * n) + 1)), .int (xs ((6 * n) + 2))] [.long r] (c := 7) dL_law_927 iX7_ahead (fun _ => trivial) mlL_100 imX7_ahead seX7_ahead (by decide) rfl rfl ⟨(Nat.le_of_ble_eq_true rfl), (Nat.le_of_ble_eq_true rfl)⟩ rfl rfl (Nat.le_of_ble_eq_true rfl) (Nat.le_of_ble_eq_true rfl) (by show cs + 0 + 0 ≤ 600000; omega) (by show ss + 0 + 0 ≤ 7302250; omega) ?_
  refine ct_post hc (fun v h2 hv => ?_)
  obtain ⟨rfl, hI2⟩ := hv
  show WP g (mLw nn b L xs) 930 [(0, .ref 50), (1, .ref 1), (2, .ref 100), (3, .int (nI (6 * n)))] [.long r, .long r] _ (cs + 0 + 0) (ss + 0 + 0) _
  refine wil_eq (tgt := 1128) (Int64.toInt r) (Int64.toInt r) rfl rfl dL_law_930 dL_law_931 (by decide) (fun _ => ?_) (fun c_1 => absurd rfl c_1)
  refine wp_sub [0, 1, 2, 3] rfl ?_
  exact hback h2 _ _ hI2 (by show cs + 0 + 0 ≤ cs + 3; omega) (by show ss + 0 + 0 ≤ ss + 30; omega)
set_option maxRecDepth 100000 in
set_option maxHeartbeats 4000000 in
theorem law_wait {g : GG} {Post : Option Value → HP → Prop} {nn : String} {b L : Nat} {xs : Nat → Int32} (hb : g.2.2 15 = b) (hL : L ≤ 384) {n : Nat} {h : HP} {nm nl ns ne nk : Nat} {fr to : Nat → Nat} {E : Nat → Nat → Prop} (hI : IV n h nm nl ns ne nk fr to E) {cs ss : Nat} (h6 : 6 * n + 6 ≤ L) (hcs : cs + 3 ≤ 600000) (hss : ss + 30 ≤ 7302250) (hback : ∀ h2 cs2 ss2, Inv (n + 1) h2 → cs2 ≤ cs + 3 → ss2 ≤ ss + 30 → WP g (mLw nn b L xs) 1128 [(0, .ref 50), (1, .ref 1), (2, .ref 100), (3, .int (nI (6 * n)))] [] h2 cs2 ss2 Post) : WP g (mLw nn b L xs) 936 [(0, .ref 50), (1, .ref 1), (2, .ref 100), (3, .int (nI (6 * n)))] [] h cs ss Post := by
  refine wp_aload_n dL_law_936 rfl 1 rfl ?_
  refine wp_aload_n dL_law_937 rfl 0 rfl ?_
  refine wp_iload_n dL_law_938 rfl 3 rfl ?_
  refine wp_iconst (v := 1) dL_law_939 (by decide) ?_
  refine wv_iadd (nI ((6 * n) + 1)) (wN_add rfl rfl) dL_law_940 ?_
  refine wp_sld ((6 * n) + 1) hb (mLw_X nn b L xs) dL_law_941 rfl (by omega) (by omega) ?_
  refine wp_callV mX6_wait 1 [.int (xs ((6 * n) + 1))] [] (c := 6) dL_law_942 iX6_wait (fun _ => trivial) mlL_101 imX6_wait seX6_wait (by decide) rfl rfl ⟨(Nat.le_of_ble_eq_true rfl), (Nat.le_of_ble_eq_true rfl)⟩ rfl rfl (Nat.le_of_ble_eq_true rfl) (Nat.le_of_ble_eq_true rfl) (by show cs + 0 ≤ 600000; omega) (by show ss + 0 ≤ 7302250; omega) ?_
  refine ct_post (op_wait hI (by omega) (xs ((6 * n) + 1))) (fun v h1 hv => ?_)
  obtain ⟨r, rfl, hc⟩ := hv
  show WP g (mLw nn b L xs) 945 [(0, .ref 50), (1, .ref 1), (2, .ref 100), (3, .int (nI (6 * n)))] [.long r] _ (cs + 0) (ss + 0) _
  refine wp_aload_n dL_law_945 rfl 2 rfl ?_
  refine wp_aload_n dL_law_946 rfl 0 rfl ?_
  refine wp_iload_n dL_law_947 rfl 3 rfl ?_
  refine wp_iconst (v := 1) dL_law_948 (by decide) ?_
  refine wv_iadd (nI ((6 * n) + 1)) (wN_add rfl rfl) dL_law_949 ?_
  refine wp_sld ((6 * n) + 1) hb (mLw_X nn b L xs) dL_law_950 rfl (by omega) (by omega) ?_
  refine wp_callV mX7_wait 100 [.int (xs ((6 * n) + 1))] [.long r] (c := 7) dL_law_951 iX7_wait (fun _ => trivial) mlL_104 imX7_wait seX7_wait (by decide) rfl rfl ⟨(Nat.le_of_ble_eq_true rfl), (Nat.le_of_ble_eq_true rfl)⟩ rfl rfl (Nat.le_of_ble_eq_true rfl) (Nat.le_of_ble_eq_true rfl) (by show cs + 0 + 0 ≤ 600000; omega) (by show ss + 0 + 0 ≤ 7302250; omega) ?_
  refine ct_post hc (fun v h2 hv => ?_)
  obtain ⟨rfl, hI2⟩ := hv
  show WP g (mLw nn b L xs) 954 [(0, .ref 50), (1, .ref 1), (2, .ref 100), (3, .int (nI (6 * n)))] [.long r, .long r] _ (cs + 0 + 0) (ss + 0 + 0) _
  refine wil_eq (tgt := 1128) (Int64.toInt r) (Int64.toInt r) rfl rfl dL_law_954 dL_law_955 (by decide) (fun _ => ?_) (fun c_1 => absurd rfl c_1)
  refine wp_pc (pc' := 1128) rfl ?_
  refine wp_sub [0, 1, 2, 3] rfl ?_
  exact hback h2 _ _ hI2 (by show cs + 0 + 0 ≤ cs + 3; omega) (by show ss + 0 + 0 ≤ ss + 30; omega)
set_option maxRecDepth 100000 in
set_option maxHeartbeats 4000000 in
theorem law_event {g : GG} {Post : Option Value → HP → Prop} {nn : String} {b L : Nat} {xs : Nat → Int32} (hb : g.2.2 15 = b) (hL : L ≤ 384) {n : Nat} {h : HP} {nm nl ns ne nk : Nat} {fr to : Nat → Nat} {E : Nat → Nat → Prop} (hI : IV n h nm nl ns ne nk fr to E) {cs ss : Nat} (h6 : 6 * n + 6 ≤ L) (hcs : cs + 3 ≤ 600000) (hss : ss + 30 ≤ 7302250) (hback : ∀ h2 cs2 ss2, Inv (n + 1) h2 → cs2 ≤ cs + 3 → ss2 ≤ ss + 30 → WP g (mLw nn b L xs) 1128 [(0, .ref 50), (1, .ref 1), (2, .ref 100), (3, .int (nI (6 * n)))] [] h2 cs2 ss2 Post) : WP g (mLw nn b L xs) 960 [(0, .ref 50), (1, .ref 1), (2, .ref 100), (3, .int (nI (6 * n)))] [] h cs ss Post := by
  refine wp_aload_n dL_law_960 rfl 1 rfl ?_
  refine wp_aload_n dL_law_961 rfl 0 rfl ?_
  refine wp_iload_n dL_law_962 rfl 3 rfl ?_
  refine wp_iconst (v := 1) dL_law_963 (by decide) ?_
  refine wv_iadd (nI ((6 * n) + 1)) (wN_add rfl rfl) dL_law_964 ?_
  refine wp_sld ((6 * n) + 1) hb (mLw_X nn b L xs) dL_law_965 rfl (by omega) (by omega) ?_
  refine wp_callV mX6_event 1 [.int (xs ((6 * n) + 1))] [] (c := 6) dL_law_966 iX6_event (fun _ => trivial) mlL_105 imX6_event seX6_event (by decide) rfl rfl ⟨(Nat.le_of_ble_eq_true rfl), (Nat.le_of_ble_eq_true rfl)⟩ rfl rfl (Nat.le_of_ble_eq_true rfl) (Nat.le_of_ble_eq_true rfl) (by show cs + 0 ≤ 600000; omega) (by show ss + 0 ≤ 7302250; omega) ?_
  refine ct_post (op_event hI (by omega) (xs ((6 * n) + 1))) (fun v h1 hv => ?_)
  obtain ⟨r, rfl, hc⟩ := hv
  show WP g (mLw nn b L xs) 969 [(0, .ref 50), (1, .ref 1), (2, .ref 100), (3, .int (nI (6 * n)))] [.long r] _ (cs + 0) (ss + 0) _
  refine wp_aload_n dL_law_969 rfl 2 rfl ?_
  refine wp_aload_n dL_law_970 rfl 0 rfl ?_
  refine wp_iload_n dL_law_971 rfl 3 rfl ?_
  refine wp_iconst (v := 1) dL_law_972 (by decide) ?_
  refine wv_iadd (nI ((6 * n) + 1)) (wN_add rfl rfl) dL_law_973 ?_
  refine wp_sld ((6 * n) + 1) hb (mLw_X nn b L xs) dL_law_974 rfl (by omega) (by omega) ?_
  refine wp_callV mX7_event 100 [.int (xs ((6 * n) + 1))] [.long r] (c := 7) dL_law_975 iX7_event (fun _ => trivial) mlL_108 imX7_event seX7_event (by decide) rfl rfl ⟨(Nat.le_of_ble_eq_true rfl), (Nat.le_of_ble_eq_true rfl)⟩ rfl rfl (Nat.le_of_ble_eq_true rfl) (Nat.le_of_ble_eq_true rfl) (by show cs + 0 + 0 ≤ 600000; omega) (by show ss + 0 + 0 ≤ 7302250; omega) ?_
  refine ct_post hc (fun v h2 hv => ?_)
  obtain ⟨rfl, hI2⟩ := hv
  show WP g (mLw nn b L xs) 978 [(0, .ref 50), (1, .ref 1), (2, .ref 100), (3, .int (nI (6 * n)))] [.long r, .long r] _ (cs + 0 + 0) (ss + 0 + 0) _
  refine wil_eq (tgt := 1128) (Int64.toInt r) (Int64.toInt r) rfl rfl dL_law_978 dL_law_979 (by decide) (fun _ => ?_) (fun c_1 => absurd rfl c_1)
  refine wp_pc (pc' := 1128) rfl ?_
  refine wp_sub [0, 1, 2, 3] rfl ?_
  exact hback h2 _ _ hI2 (by show cs + 0 + 0 ≤ cs + 3; omega) (by show ss + 0 + 0 ≤ ss + 30; omega)
set_option maxRecDepth 100000 in
set_option maxHeartbeats 4000000 in
theorem law_link {g : GG} {Post : Option Value → HP → Prop} {nn : String} {b L : Nat} {xs : Nat → Int32} (hb : g.2.2 15 = b) (hL : L ≤ 384) {n : Nat} {h : HP} {nm nl ns ne nk : Nat} {fr to : Nat → Nat} {E : Nat → Nat → Prop} (hI : IV n h nm nl ns ne nk fr to E) {cs ss : Nat} (h6 : 6 * n + 6 ≤ L) (hcs : cs + 3 ≤ 600000) (hss : ss + 30 ≤ 7302250) (hback : ∀ h2 cs2 ss2, Inv (n + 1) h2 → cs2 ≤ cs + 3 → ss2 ≤ ss + 30 → WP g (mLw nn b L xs) 1128 [(0, .ref 50), (1, .ref 1), (2, .ref 100), (3, .int (nI (6 * n)))] [] h2 cs2 ss2 Post) : WP g (mLw nn b L xs) 984 [(0, .ref 50), (1, .ref 1), (2, .ref 100), (3, .int (nI (6 * n)))] [] h cs ss Post := by
  refine wp_aload_n dL_law_984 rfl 1 rfl ?_
  refine wp_aload_n dL_law_985 rfl 0 rfl ?_
  refine wp_iload_n dL_law_986 rfl 3 rfl ?_
  refine wp_iconst (v := 1) dL_law_987 (by decide) ?_
  refine wv_iadd (nI ((6 * n) + 1)) (wN_add rfl rfl) dL_law_988 ?_
  refine wp_sld ((6 * n) + 1) hb (mLw_X nn b L xs) dL_law_989 rfl (by omega) (by omega) ?_
  refine wp_aload_n dL_law_990 rfl 0 rfl ?_
  refine wp_iload_n dL_law_991 rfl 3 rfl ?_
  refine wp_iconst (v := 2) dL_law_992 (by decide) ?_
  refine wv_iadd (nI ((6 * n) + 2)) (wN_add rfl rfl) dL_law_993 ?_
  refine wp_sld ((6 * n) + 2) hb (mLw_X nn b L xs) dL_law_994 rfl (by omega) (by omega) ?_
  refine wp_callV mX6_link 1 [.int (xs ((6 * n) + 1)), .int (xs ((6 * n) + 2))] [] (c := 6) dL_law_995 iX6_link (fun _ => trivial) mlL_109 imX6_link seX6_link (by decide) rfl rfl ⟨(Nat.le_of_ble_eq_true rfl), (Nat.le_of_ble_eq_true rfl)⟩ rfl rfl (Nat.le_of_ble_eq_true rfl) (Nat.le_of_ble_eq_true rfl) (by show cs + 0 ≤ 600000; omega) (by show ss + 0 ≤ 7302250; omega) ?_
  refine ct_post (op_link hI (by omega) (xs ((6 * n) + 1)) (xs ((6 * n) + 2))) (fun v h1 hv => ?_)
  obtain ⟨r, rfl, hc⟩ := hv
  show WP g (mLw nn b L xs) 998 [(0, .ref 50), (1, .ref 1), (2, .ref 100), (3, .int (nI (6 * n)))] [.long r] _ (cs + 0) (ss + 0) _
  refine wp_aload_n dL_law_998 rfl 2 rfl ?_
  refine wp_aload_n dL_law_999 rfl 0 rfl ?_
  refine wp_iload_n dL_law_1000 rfl 3 rfl ?_
  refine wp_pc (pc' := 1001) rfl ?_
  refine wp_iconst (v := 1) dL_law_1001 (by decide) ?_
  refine wv_iadd (nI ((6 * n) + 1)) (wN_add rfl rfl) dL_law_1002 ?_
  refine wp_sld ((6 * n) + 1) hb (mLw_X nn b L xs) dL_law_1003 rfl (by omega) (by omega) ?_
  refine wp_aload_n dL_law_1004 rfl 0 rfl ?_
  refine wp_iload_n dL_law_1005 rfl 3 rfl ?_
  refine wp_iconst (v := 2) dL_law_1006 (by decide) ?_
  refine wv_iadd (nI ((6 * n) + 2)) (wN_add rfl rfl) dL_law_1007 ?_
  refine wp_sld ((6 * n) + 2) hb (mLw_X nn b L xs) dL_law_1008 rfl (by omega) (by omega) ?_
  refine wp_callV mX7_link 100 [.int (xs ((6 * n) + 1)), .int (xs ((6 * n) + 2))] [.long r] (c := 7) dL_law_1009 iX7_link (fun _ => trivial) mlL_112 imX7_link seX7_link (by decide) rfl rfl ⟨(Nat.le_of_ble_eq_true rfl), (Nat.le_of_ble_eq_true rfl)⟩ rfl rfl (Nat.le_of_ble_eq_true rfl) (Nat.le_of_ble_eq_true rfl) (by show cs + 0 + 0 ≤ 600000; omega) (by show ss + 0 + 0 ≤ 7302250; omega) ?_
  refine ct_post hc (fun v h2 hv => ?_)
  obtain ⟨rfl, hI2⟩ := hv
  show WP g (mLw nn b L xs) 1012 [(0, .ref 50), (1, .ref 1), (2, .ref 100), (3, .int (nI (6 * n)))] [.long r, .long r] _ (cs + 0 + 0) (ss + 0 + 0) _
  refine wil_eq (tgt := 1128) (Int64.toInt r) (Int64.toInt r) rfl rfl dL_law_1012 dL_law_1013 (by decide) (fun _ => ?_) (fun c_1 => absurd rfl c_1)
  refine wp_sub [0, 1, 2, 3] rfl ?_
  exact hback h2 _ _ hI2 (by show cs + 0 + 0 ≤ cs + 3; omega) (by show ss + 0 + 0 ≤ ss + 30; omega)
set_option maxRecDepth 100000 in
set_option maxHeartbeats 4000000 in
theorem law_mend {g : GG} {Post : Option Value → HP → Prop} {nn : String} {b L : Nat} {xs : Nat → Int32} (hb : g.2.2 15 = b) (hL : L ≤ 384) {n : Nat} {h : HP} {nm nl ns ne nk : Nat} {fr to : Nat → Nat} {E : Nat → Nat → Prop} (hI : IV n h nm nl ns ne nk fr to E) {cs ss : Nat} (h6 : 6 * n + 6 ≤ L) (hcs : cs + 3 ≤ 600000) (hss : ss + 30 ≤ 7302250) (hback : ∀ h2 cs2 ss2, Inv (n + 1) h2 → cs2 ≤ cs + 3 → ss2 ≤ ss + 30 → WP g (mLw nn b L xs) 1128 [(0, .ref 50), (1, .ref 1), (2, .ref 100), (3, .int (nI (6 * n)))] [] h2 cs2 ss2 Post) : WP g (mLw nn b L xs) 1018 [(0, .ref 50), (1, .ref 1), (2, .ref 100), (3, .int (nI (6 * n)))] [] h cs ss Post := by
  refine wp_aload_n dL_law_1018 rfl 1 rfl ?_
  refine wp_callV mX6_mend 1 [] [] (c := 6) dL_law_1019 iX6_mend (fun _ => trivial) mlL_113 imX6_mend seX6_mend (by decide) rfl rfl ⟨(Nat.le_of_ble_eq_true rfl), (Nat.le_of_ble_eq_true rfl)⟩ rfl rfl (Nat.le_of_ble_eq_true rfl) (Nat.le_of_ble_eq_true rfl) (by show cs + 0 ≤ 600000; omega) (by show ss + 0 ≤ 7302250; omega) ?_
  refine ct_post (op_mend hI (by omega) ) (fun v h1 hv => ?_)
  obtain ⟨r, rfl, hc⟩ := hv
  show WP g (mLw nn b L xs) 1022 [(0, .ref 50), (1, .ref 1), (2, .ref 100), (3, .int (nI (6 * n)))] [.long r] _ (cs + 0) (ss + 0) _
  refine wp_aload_n dL_law_1022 rfl 2 rfl ?_
  refine wp_callV mX7_mend 100 [] [.long r] (c := 7) dL_law_1023 iX7_mend (fun _ => trivial) mlL_117 imX7_mend seX7_mend (by decide) rfl rfl ⟨(Nat.le_of_ble_eq_true rfl), (Nat.le_of_ble_eq_true rfl)⟩ rfl rfl (Nat.le_of_ble_eq_true rfl) (Nat.le_of_ble_eq_true rfl) (by show cs + 0 + 0 ≤ 600000; omega) (by show ss + 0 + 0 ≤ 7302250; omega) ?_
  refine ct_post hc (fun v h2 hv => ?_)
  obtain ⟨rfl, hI2⟩ := hv
  show WP g (mLw nn b L xs) 1026 [(0, .ref 50), (1, .ref 1), (2, .ref 100), (3, .int (nI (6 * n)))] [.long r, .long r] _ (cs + 0 + 0) (ss + 0 + 0) _
  refine wil_eq (tgt := 1128) (Int64.toInt r) (Int64.toInt r) rfl rfl dL_law_1026 dL_law_1027 (by decide) (fun _ => ?_) (fun c_1 => absurd rfl c_1)
  refine wp_sub [0, 1, 2, 3] rfl ?_
  exact hback h2 _ _ hI2 (by show cs + 0 + 0 ≤ cs + 3; omega) (by show ss + 0 + 0 ≤ ss + 30; omega)
set_option maxRecDepth 100000 in
set_option maxHeartbeats 4000000 in
theorem law_order {g : GG} {Post : Option Value → HP → Prop} {nn : String} {b L : Nat} {xs : Nat → Int32} (hb : g.2.2 15 = b) (hL : L ≤ 384) {n : Nat} {h : HP} {nm nl ns ne nk : Nat} {fr to : Nat → Nat} {E : Nat → Nat → Prop} (hI : IV n h nm nl ns ne nk fr to E) {cs ss : Nat} (h6 : 6 * n + 6 ≤ L) (hcs : cs + 3 ≤ 600000) (hss : ss + 30 ≤ 7302250) (hback : ∀ h2 cs2 ss2, Inv (n + 1) h2 → cs2 ≤ cs + 3 → ss2 ≤ ss + 30 → WP g (mLw nn b L xs) 1128 [(0, .ref 50), (1, .ref 1), (2, .ref 100), (3, .int (nI (6 * n)))] [] h2 cs2 ss2 Post) : WP g (mLw nn b L xs) 1032 [(0, .ref 50), (1, .ref 1), (2, .ref 100), (3, .int (nI (6 * n)))] [] h cs ss Post := by
  refine wp_aload_n dL_law_1032 rfl 1 rfl ?_
  refine wp_aload_n dL_law_1033 rfl 0 rfl ?_
  refine wp_iload_n dL_law_1034 rfl 3 rfl ?_
  refine wp_iconst (v := 1) dL_law_1035 (by decide) ?_
  refine wv_iadd (nI ((6 * n) + 1)) (wN_add rfl rfl) dL_law_1036 ?_
  refine wp_sld ((6 * n) + 1) hb (mLw_X nn b L xs) dL_law_1037 rfl (by omega) (by omega) ?_
  refine wp_callV mX6_order 1 [.int (xs ((6 * n) + 1))] [] (c := 6) dL_law_1038 iX6_order (fun _ => trivial) mlL_118 imX6_order seX6_order (by decide) rfl rfl ⟨(Nat.le_of_ble_eq_true rfl), (Nat.le_of_ble_eq_true rfl)⟩ rfl rfl (Nat.le_of_ble_eq_true rfl) (Nat.le_of_ble_eq_true rfl) (by show cs + 0 ≤ 600000; omega) (by show ss + 0 ≤ 7302250; omega) ?_
  refine ct_post (op_order hI (by omega) (xs ((6 * n) + 1))) (fun v h1 hv => ?_)
  obtain ⟨r, rfl, hc⟩ := hv
  show WP g (mLw nn b L xs) 1041 [(0, .ref 50), (1, .ref 1), (2, .ref 100), (3, .int (nI (6 * n)))] [.long r] _ (cs + 0) (ss + 0) _
  refine wp_aload_n dL_law_1041 rfl 2 rfl ?_
  refine wp_aload_n dL_law_1042 rfl 0 rfl ?_
  refine wp_iload_n dL_law_1043 rfl 3 rfl ?_
  refine wp_iconst (v := 1) dL_law_1044 (by decide) ?_
  refine wv_iadd (nI ((6 * n) + 1)) (wN_add rfl rfl) dL_law_1045 ?_
  refine wp_sld ((6 * n) + 1) hb (mLw_X nn b L xs) dL_law_1046 rfl (by omega) (by omega) ?_
  refine wp_callV mX7_order 100 [.int (xs ((6 * n) + 1))] [.long r] (c := 7) dL_law_1047 iX7_order (fun _ => trivial) mlL_121 imX7_order seX7_order (by decide) rfl rfl ⟨(Nat.le_of_ble_eq_true rfl), (Nat.le_of_ble_eq_true rfl)⟩ rfl rfl (Nat.le_of_ble_eq_true rfl) (Nat.le_of_ble_eq_true rfl) (by show cs + 0 + 0 ≤ 600000; omega) (by show ss + 0 + 0 ≤ 7302250; omega) ?_
  refine ct_post hc (fun v h2 hv => ?_)
  obtain ⟨rfl, hI2⟩ := hv
  show WP g (mLw nn b L xs) 1050 [(0, .ref 50), (1, .ref 1), (2, .ref 100), (3, .int (nI (6 * n)))] [.long r, .long r] _ (cs + 0 + 0) (ss + 0 + 0) _
  refine wil_eq (tgt := 1128) (Int64.toInt r) (Int64.toInt r) rfl rfl dL_law_1050 dL_law_1051 (by decide) (fun _ => ?_) (fun c_1 => absurd rfl c_1)
  refine wp_pc (pc' := 1128) rfl ?_
  refine wp_sub [0, 1, 2, 3] rfl ?_
  exact hback h2 _ _ hI2 (by show cs + 0 + 0 ≤ cs + 3; omega) (by show ss + 0 + 0 ≤ ss + 30; omega)
set_option maxRecDepth 100000 in
set_option maxHeartbeats 4000000 in
theorem law_time {g : GG} {Post : Option Value → HP → Prop} {nn : String} {b L : Nat} {xs : Nat → Int32} (hb : g.2.2 15 = b) (hL : L ≤ 384) {n : Nat} {h : HP} {nm nl ns ne nk : Nat} {fr to : Nat → Nat} {E : Nat → Nat → Prop} (hI : IV n h nm nl ns ne nk fr to E) {cs ss : Nat} (h6 : 6 * n + 6 ≤ L) (hcs : cs + 3 ≤ 600000) (hss : ss + 30 ≤ 7302250) (hback : ∀ h2 cs2 ss2, Inv (n + 1) h2 → cs2 ≤ cs + 3 → ss2 ≤ ss + 30 → WP g (mLw nn b L xs) 1128 [(0, .ref 50), (1, .ref 1), (2, .ref 100), (3, .int (nI (6 * n)))] [] h2 cs2 ss2 Post) : WP g (mLw nn b L xs) 1056 [(0, .ref 50), (1, .ref 1), (2, .ref 100), (3, .int (nI (6 * n)))] [] h cs ss Post := by
  refine wp_aload_n dL_law_1056 rfl 1 rfl ?_
  refine wp_aload_n dL_law_1057 rfl 0 rfl ?_
  refine wp_iload_n dL_law_1058 rfl 3 rfl ?_
  refine wp_iconst (v := 1) dL_law_1059 (by decide) ?_
  refine wv_iadd (nI ((6 * n) + 1)) (wN_add rfl rfl) dL_law_1060 ?_
  refine wp_sld ((6 * n) + 1) hb (mLw_X nn b L xs) dL_law_1061 rfl (by omega) (by omega) ?_
  refine wp_callV mX6_time 1 [.int (xs ((6 * n) + 1))] [] (c := 6) dL_law_1062 iX6_time (fun _ => trivial) mlL_122 imX6_time seX6_time (by decide) rfl rfl ⟨(Nat.le_of_ble_eq_true rfl), (Nat.le_of_ble_eq_true rfl)⟩ rfl rfl (Nat.le_of_ble_eq_true rfl) (Nat.le_of_ble_eq_true rfl) (by show cs + 0 ≤ 600000; omega) (by show ss + 0 ≤ 7302250; omega) ?_
  refine ct_post (op_time hI (by omega) (xs ((6 * n) + 1))) (fun v h1 hv => ?_)
  obtain ⟨r, rfl, hc⟩ := hv
  show WP g (mLw nn b L xs) 1065 [(0, .ref 50), (1, .ref 1), (2, .ref 100), (3, .int (nI (6 * n)))] [.long r] _ (cs + 0) (ss + 0) _
  refine wp_aload_n dL_law_1065 rfl 2 rfl ?_
  refine wp_aload_n dL_law_1066 rfl 0 rfl ?_
  refine wp_iload_n dL_law_1067 rfl 3 rfl ?_
  refine wp_iconst (v := 1) dL_law_1068 (by decide) ?_
  refine wv_iadd (nI ((6 * n) + 1)) (wN_add rfl rfl) dL_law_1069 ?_
  refine wp_sld ((6 * n) + 1) hb (mLw_X nn b L xs) dL_law_1070 rfl (by omega) (by omega) ?_
  refine wp_callV mX7_time 100 [.int (xs ((6 * n) + 1))] [.long r] (c := 7) dL_law_1071 iX7_time (fun _ => trivial) mlL_125 imX7_time seX7_time (by decide) rfl rfl ⟨(Nat.le_of_ble_eq_true rfl), (Nat.le_of_ble_eq_true rfl)⟩ rfl rfl (Nat.le_of_ble_eq_true rfl) (Nat.le_of_ble_eq_true rfl) (by show cs + 0 + 0 ≤ 600000; omega) (by show ss + 0 + 0 ≤ 7302250; omega) ?_
  refine ct_post hc (fun v h2 hv => ?_)
  obtain ⟨rfl, hI2⟩ := hv
  show WP g (mLw nn b L xs) 1074 [(0, .ref 50), (1, .ref 1), (2, .ref 100), (3, .int (nI (6 * n)))] [.long r, .long r] _ (cs + 0 + 0) (ss + 0 + 0) _
  refine wil_eq (tgt := 1128) (Int64.toInt r) (Int64.toInt r) rfl rfl dL_law_1074 dL_law_1075 (by decide) (fun _ => ?_) (fun c_1 => absurd rfl c_1)
  refine wp_pc (pc' := 1128) rfl ?_
  refine wp_sub [0, 1, 2, 3] rfl ?_
  exact hback h2 _ _ hI2 (by show cs + 0 + 0 ≤ cs + 3; omega) (by show ss + 0 + 0 ≤ ss + 30; omega)
set_option maxRecDepth 100000 in
set_option maxHeartbeats 4000000 in
theorem law_ring {g : GG} {Post : Option Value → HP → Prop} {nn : String} {b L : Nat} {xs : Nat → Int32} (hb : g.2.2 15 = b) (hL : L ≤ 384) {n : Nat} {h : HP} {nm nl ns ne nk : Nat} {fr to : Nat → Nat} {E : Nat → Nat → Prop} (hI : IV n h nm nl ns ne nk fr to E) {cs ss : Nat} (h6 : 6 * n + 6 ≤ L) (hcs : cs + 3 ≤ 600000) (hss : ss + 30 ≤ 7302250) (hback : ∀ h2 cs2 ss2, Inv (n + 1) h2 → cs2 ≤ cs + 3 → ss2 ≤ ss + 30 → WP g (mLw nn b L xs) 1128 [(0, .ref 50), (1, .ref 1), (2, .ref 100), (3, .int (nI (6 * n)))] [] h2 cs2 ss2 Post) : WP g (mLw nn b L xs) 1080 [(0, .ref 50), (1, .ref 1), (2, .ref 100), (3, .int (nI (6 * n)))] [] h cs ss Post := by
  refine wp_aload_n dL_law_1080 rfl 1 rfl ?_
  refine wp_aload_n dL_law_1081 rfl 0 rfl ?_
  refine wp_iload_n dL_law_1082 rfl 3 rfl ?_
  refine wp_iconst (v := 1) dL_law_1083 (by decide) ?_
  refine wv_iadd (nI ((6 * n) + 1)) (wN_add rfl rfl) dL_law_1084 ?_
  refine wp_sld ((6 * n) + 1) hb (mLw_X nn b L xs) dL_law_1085 rfl (by omega) (by omega) ?_
  refine wp_callV mX6_ring 1 [.int (xs ((6 * n) + 1))] [] (c := 6) dL_law_1086 iX6_ring (fun _ => trivial) mlL_126 imX6_ring seX6_ring (by decide) rfl rfl ⟨(Nat.le_of_ble_eq_true rfl), (Nat.le_of_ble_eq_true rfl)⟩ rfl rfl (Nat.le_of_ble_eq_true rfl) (Nat.le_of_ble_eq_true rfl) (by show cs + 0 ≤ 600000; omega) (by show ss + 0 ≤ 7302250; omega) ?_
  refine ct_post (op_ring hI (by omega) (xs ((6 * n) + 1))) (fun v h1 hv => ?_)
  obtain ⟨r, rfl, hc⟩ := hv
  show WP g (mLw nn b L xs) 1089 [(0, .ref 50), (1, .ref 1), (2, .ref 100), (3, .int (nI (6 * n)))] [.long r] _ (cs + 0) (ss + 0) _
  refine wp_aload_n dL_law_1089 rfl 2 rfl ?_
  refine wp_aload_n dL_law_1090 rfl 0 rfl ?_
  refine wp_iload_n dL_law_1091 rfl 3 rfl ?_
  refine wp_iconst (v := 1) dL_law_1092 (by decide) ?_
  refine wv_iadd (nI ((6 * n) + 1)) (wN_add rfl rfl) dL_law_1093 ?_
  refine wp_sld ((6 * n) + 1) hb (mLw_X nn b L xs) dL_law_1094 rfl (by omega) (by omega) ?_
  refine wp_callV mX7_ring 100 [.int (xs ((6 * n) + 1))] [.long r] (c := 7) dL_law_1095 iX7_ring (fun _ => trivial) mlL_129 imX7_ring seX7_ring (by decide) rfl rfl ⟨(Nat.le_of_ble_eq_true rfl), (Nat.le_of_ble_eq_true rfl)⟩ rfl rfl (Nat.le_of_ble_eq_true rfl) (Nat.le_of_ble_eq_true rfl) (by show cs + 0 + 0 ≤ 600000; omega) (by show ss + 0 + 0 ≤ 7302250; omega) ?_
  refine ct_post hc (fun v h2 hv => ?_)
  obtain ⟨rfl, hI2⟩ := hv
  show WP g (mLw nn b L xs) 1098 [(0, .ref 50), (1, .ref 1), (2, .ref 100), (3, .int (nI (6 * n)))] [.long r, .long r] _ (cs + 0 + 0) (ss + 0 + 0) _
  refine wil_eq (tgt := 1128) (Int64.toInt r) (Int64.toInt r) rfl rfl dL_law_1098 dL_law_1099 (by decide) (fun _ => ?_) (fun c_1 => absurd rfl c_1)
  refine wp_pc (pc' := 1128) rfl ?_
  refine wp_sub [0, 1, 2, 3] rfl ?_
  exact hback h2 _ _ hI2 (by show cs + 0 + 0 ≤ cs + 3; omega) (by show ss + 0 + 0 ≤ ss + 30; omega)
set_option maxRecDepth 100000 in
set_option maxHeartbeats 4000000 in
theorem law_count {g : GG} {Post : Option Value → HP → Prop} {nn : String} {b L : Nat} {xs : Nat → Int32} (hb : g.2.2 15 = b) (hL : L ≤ 384) {n : Nat} {h : HP} {nm nl ns ne nk : Nat} {fr to : Nat → Nat} {E : Nat → Nat → Prop} (hI : IV n h nm nl ns ne nk fr to E) {cs ss : Nat} (h6 : 6 * n + 6 ≤ L) (hcs : cs + 3 ≤ 600000) (hss : ss + 30 ≤ 7302250) (hback : ∀ h2 cs2 ss2, Inv (n + 1) h2 → cs2 ≤ cs + 3 → ss2 ≤ ss + 30 → WP g (mLw nn b L xs) 1128 [(0, .ref 50), (1, .ref 1), (2, .ref 100), (3, .int (nI (6 * n)))] [] h2 cs2 ss2 Post) : WP g (mLw nn b L xs) 1104 [(0, .ref 50), (1, .ref 1), (2, .ref 100), (3, .int (nI (6 * n)))] [] h cs ss Post := by
  refine wp_aload_n dL_law_1104 rfl 1 rfl ?_
  refine wp_aload_n dL_law_1105 rfl 0 rfl ?_
  refine wp_iload_n dL_law_1106 rfl 3 rfl ?_
  refine wp_iconst (v := 1) dL_law_1107 (by decide) ?_
  refine wv_iadd (nI ((6 * n) + 1)) (wN_add rfl rfl) dL_law_1108 ?_
  refine wp_sld ((6 * n) + 1) hb (mLw_X nn b L xs) dL_law_1109 rfl (by omega) (by omega) ?_
  refine wp_callV mX6_count 1 [.int (xs ((6 * n) + 1))] [] (c := 6) dL_law_1110 iX6_count (fun _ => trivial) mlL_130 imX6_count seX6_count (by decide) rfl rfl ⟨(Nat.le_of_ble_eq_true rfl), (Nat.le_of_ble_eq_true rfl)⟩ rfl rfl (Nat.le_of_ble_eq_true rfl) (Nat.le_of_ble_eq_true rfl) (by show cs + 0 ≤ 600000; omega) (by show ss + 0 ≤ 7302250; omega) ?_
  refine ct_post (op_count hI (by omega) (xs ((6 * n) + 1))) (fun v h1 hv => ?_)
  obtain ⟨r, rfl, hc⟩ := hv
  show WP g (mLw nn b L xs) 1113 [(0, .ref 50), (1, .ref 1), (2, .ref 100), (3, .int (nI (6 * n)))] [.long r] _ (cs + 0) (ss + 0) _
  refine wp_aload_n dL_law_1113 rfl 2 rfl ?_
  refine wp_aload_n dL_law_1114 rfl 0 rfl ?_
  refine wp_iload_n dL_law_1115 rfl 3 rfl ?_
  refine wp_iconst (v := 1) dL_law_1116 (by decide) ?_
  refine wv_iadd (nI ((6 * n) + 1)) (wN_add rfl rfl) dL_law_1117 ?_
  refine wp_sld ((6 * n) + 1) hb (mLw_X nn b L xs) dL_law_1118 rfl (by omega) (by omega) ?_
  refine wp_callV mX7_count 100 [.int (xs ((6 * n) + 1))] [.long r] (c := 7) dL_law_1119 iX7_count (fun _ => trivial) mlL_133 imX7_count seX7_count (by decide) rfl rfl ⟨(Nat.le_of_ble_eq_true rfl), (Nat.le_of_ble_eq_true rfl)⟩ rfl rfl (Nat.le_of_ble_eq_true rfl) (Nat.le_of_ble_eq_true rfl) (by show cs + 0 + 0 ≤ 600000; omega) (by show ss + 0 + 0 ≤ 7302250; omega) ?_
  refine ct_post hc (fun v h2 hv => ?_)
  obtain ⟨rfl, hI2⟩ := hv
  show WP g (mLw nn b L xs) 1122 [(0, .ref 50), (1, .ref 1), (2, .ref 100), (3, .int (nI (6 * n)))] [.long r, .long r] _ (cs + 0 + 0) (ss + 0 + 0) _
  refine wil_eq (tgt := 1128) (Int64.toInt r) (Int64.toInt r) rfl rfl dL_law_1122 dL_law_1123 (by decide) (fun _ => ?_) (fun c_1 => absurd rfl c_1)
  refine wp_pc (pc' := 1128) rfl ?_
  refine wp_sub [0, 1, 2, 3] rfl ?_
  exact hback h2 _ _ hI2 (by show cs + 0 + 0 ≤ cs + 3; omega) (by show ss + 0 + 0 ≤ ss + 30; omega)
set_option maxRecDepth 100000 in
set_option maxHeartbeats 4000000 in
theorem law_turn {g : GG} {Post : Option Value → HP → Prop} {nn : String} {b L : Nat} {xs : Nat → Int32} (hb : g.2.2 15 = b) (hL : L ≤ 384) {n : Nat} {h : HP} {nm nl ns ne nk : Nat} {fr to : Nat → Nat} {E : Nat → Nat → Prop} (hI : IV n h nm nl ns ne nk fr to E) {cs ss : Nat} (h6 : 6 * n + 6 ≤ L) (hcs : cs + 3 ≤ 600000) (hss : ss + 30 ≤ 7302250) (hback : ∀ h2 cs2 ss2, Inv (n + 1) h2 → cs2 ≤ cs + 3 → ss2 ≤ ss + 30 → WP g (mLw nn b L xs) 1128 [(0, .ref 50), (1, .ref 1), (2, .ref 100), (3, .int (nI (6 * n)))] [] h2 cs2 ss2 Post) : WP g (mLw nn b L xs) 27 [(0, .ref 50), (1, .ref 1), (2, .ref 100), (3, .int (nI (6 * n)))] [] h cs ss Post := by
  refine wp_aload_n dL_law_27 rfl 0 rfl ?_
  refine wp_iload_n dL_law_28 rfl 3 rfl ?_
  refine wp_sld (6 * n) hb (mLw_X nn b L xs) dL_law_29 rfl (by omega) (by omega) ?_
  refine wp_bipush (v := 31) dL_law_30 (by decide) ?_
  refine wp_iand dL_law_32 ?_
  generalize (xs (6 * n)) &&& 31 = x
  by_cases hx : inR x 28
  · obtain ⟨q, hq, rfl⟩ := inR_ex hx (by omega)
    match q, hq with
    | 0, _ => exact wp_tableIn (off := 127) (tgt := 160) dL_law_33 (by decide) (by decide) (by decide) (by decide) (law_go hb hL hI h6 hcs hss hback)
    | 1, _ => exact wp_tableIn (off := 151) (tgt := 184) dL_law_33 (by decide) (by decide) (by decide) (by decide) (law_member hb hL hI h6 hcs hss hback)
    | 2, _ => exact wp_tableIn (off := 195) (tgt := 228) dL_law_33 (by decide) (by decide) (by decide) (by decide) (law_rate hb hL hI h6 hcs hss hback)
    | 3, _ => exact wp_tableIn (off := 239) (tgt := 272) dL_law_33 (by decide) (by decide) (by decide) (by decide) (law_lie hb hL hI h6 hcs hss hback)
    | 4, _ => exact wp_tableIn (off := 343) (tgt := 376) dL_law_33 (by decide) (by decide) (by decide) (by decide) (law_rest hb hL hI h6 hcs hss hback)
    | 5, _ => exact wp_tableIn (off := 393) (tgt := 426) dL_law_33 (by decide) (by decide) (by decide) (by decide) (law_counter hb hL hI h6 hcs hss hback)
    | 6, _ => exact wp_tableIn (off := 417) (tgt := 450) dL_law_33 (by decide) (by decide) (by decide) (by decide) (law_of hb hL hI h6 hcs hss hback)
    | 7, _ => exact wp_tableIn (off := 451) (tgt := 484) dL_law_33 (by decide) (by decide) (by decide) (by decide) (law_ask hb hL hI h6 hcs hss hback)
    | 8, _ => exact wp_tableIn (off := 485) (tgt := 518) dL_law_33 (by decide) (by decide) (by decide) (by decide) (law_deliver hb hL hI h6 hcs hss hback)
    | 9, _ => exact wp_tableIn (off := 509) (tgt := 542) dL_law_33 (by decide) (by decide) (by decide) (by decide) (law_lose hb hL hI h6 hcs hss hback)
    | 10, _ => exact wp_tableIn (off := 533) (tgt := 566) dL_law_33 (by decide) (by decide) (by decide) (by decide) (law_twice hb hL hI h6 hcs hss hback)
    | 11, _ => exact wp_tableIn (off := 557) (tgt := 590) dL_law_33 (by decide) (by decide) (by decide) (by decide) (law_letter hb hL hI h6 hcs hss hback)
    | 12, _ => exact wp_tableIn (off := 591) (tgt := 624) dL_law_33 (by decide) (by decide) (by decide) (by decide) (law_heard hb hL hI h6 hcs hss hback)
    | 13, _ => exact wp_tableIn (off := 635) (tgt := 668) dL_law_33 (by decide) (by decide) (by decide) (by decide) (law_votes hb hL hI h6 hcs hss hback)
    | 14, _ => exact wp_tableIn (off := 699) (tgt := 732) dL_law_33 (by decide) (by decide) (by decide) (by decide) (law_council hb hL hI h6 hcs hss hback)
    | 15, _ => exact wp_tableIn (off := 743) (tgt := 776) dL_law_33 (by decide) (by decide) (by decide) (by decide) (law_meet hb hL hI h6 hcs hss hback)
    | 16, _ => exact wp_tableIn (off := 777) (tgt := 810) dL_law_33 (by decide) (by decide) (by decide) (by decide) (law_lead hb hL hI h6 hcs hss hback)
    | 17, _ => exact wp_tableIn (off := 811) (tgt := 844) dL_law_33 (by decide) (by decide) (by decide) (by decide) (law_stamp hb hL hI h6 hcs hss hback)
    | 18, _ => exact wp_tableIn (off := 835) (tgt := 868) dL_law_33 (by decide) (by decide) (by decide) (by decide) (law_given hb hL hI h6 hcs hss hback)
    | 19, _ => exact wp_tableIn (off := 869) (tgt := 902) dL_law_33 (by decide) (by decide) (by decide) (by decide) (law_ahead hb hL hI h6 hcs hss hback)
    | 20, _ => exact wp_tableIn (off := 903) (tgt := 936) dL_law_33 (by decide) (by decide) (by decide) (by decide) (law_wait hb hL hI h6 hcs hss hback)
    | 21, _ => exact wp_tableIn (off := 927) (tgt := 960) dL_law_33 (by decide) (by decide) (by decide) (by decide) (law_event hb hL hI h6 hcs hss hback)
    | 22, _ => exact wp_tableIn (off := 951) (tgt := 984) dL_law_33 (by decide) (by decide) (by decide) (by decide) (law_link hb hL hI h6 hcs hss hback)
    | 23, _ => exact wp_tableIn (off := 985) (tgt := 1018) dL_law_33 (by decide) (by decide) (by decide) (by decide) (law_mend hb hL hI h6 hcs hss hback)
    | 24, _ => exact wp_tableIn (off := 999) (tgt := 1032) dL_law_33 (by decide) (by decide) (by decide) (by decide) (law_order hb hL hI h6 hcs hss hback)
    | 25, _ => exact wp_tableIn (off := 1023) (tgt := 1056) dL_law_33 (by decide) (by decide) (by decide) (by decide) (law_time hb hL hI h6 hcs hss hback)
    | 26, _ => exact wp_tableIn (off := 1047) (tgt := 1080) dL_law_33 (by decide) (by decide) (by decide) (by decide) (law_ring hb hL hI h6 hcs hss hback)
    | 27, _ => exact wp_tableIn (off := 1071) (tgt := 1104) dL_law_33 (by decide) (by decide) (by decide) (by decide) (law_count hb hL hI h6 hcs hss hback)
    | q + 28, hq => exact absurd hq (by omega)
  · refine wp_tableOut (tgt := 1128) dL_law_33 (by unfold inR at hx; omega) (by decide) ?_
    exact hback h cs ss (inv_up hI) (by omega) (by omega)
set_option maxRecDepth 100000 in
set_option maxHeartbeats 4000000 in
theorem law_loop {g : GG} {Post : Option Value → HP → Prop} {nn : String} {b L : Nat} {xs : Nat → Int32} (hb : g.2.2 15 = b) (hL : L ≤ 384) (hp : ∀ h, Post (some (.int 1)) h) : ∀ (k n cs ss : Nat) (h : HP), n + k = 64 → cs + 3 * k ≤ 600000 → ss + 30 * k ≤ 7302250 → Inv n h → WP g (mLw nn b L xs) 18 [(0, .ref 50), (1, .ref 1), (2, .ref 100), (3, .int (nI (6 * n)))] [] h cs ss Post := by
  intro k
  have hlen : (Int32.ofNat L - 6).toInt = (L : Int) - 6 := by
    rw [Int32.toInt_sub, show (Int32.ofNat L).toInt = (L : Int) from nIt (by omega)]
    exact Int.bmod_eq_of_le (by show _ ≤ (L : Int) - 6; omega) (by show (L : Int) - 6 < _; omega)
  induction k with
  | zero =>
    intro n cs ss h e0 hcs hss hI
    refine wp_iload_n dL_law_18 rfl 3 rfl ?_
    refine wp_aload_n dL_law_19 rfl 0 rfl ?_
    refine wp_slen hb (mLw_X nn b L xs) dL_law_20 ?_
    refine wp_bipush (v := 6) dL_law_21 (by decide) ?_
    refine wp_isub dL_law_23 ?_
    refine wi_icmp_gt (tgt := 1134) ((6 * n : Nat)) (((L : Int) - 6)) (nIt (by omega)) hlen dL_law_24 (by decide) (fun _ => ?_) (fun c_1 => absurd (by omega) c_1)
    refine wp_iconst (v := 1) dL_law_1134 (by decide) ?_
    refine wp_zret dL_law_1135 rfl (by show cs ≤ 600000; omega) (by show ss ≤ 7302250; omega) rfl ?_
    exact hp h
  | succ k ih =>
    intro n cs ss h e0 hcs hss hI
    by_cases h6 : 6 * n + 6 ≤ L
    · skip
      refine wp_iload_n dL_law_18 rfl 3 rfl ?_
      refine wp_aload_n dL_law_19 rfl 0 rfl ?_
      refine wp_slen hb (mLw_X nn b L xs) dL_law_20 ?_
      refine wp_bipush (v := 6) dL_law_21 (by decide) ?_
      refine wp_isub dL_law_23 ?_
      refine wi_icmp_gt (tgt := 1134) ((6 * n : Nat)) (((L : Int) - 6)) (nIt (by omega)) hlen dL_law_24 (by decide) (fun c_1 => absurd c_1 (by omega)) (fun _ => ?_)
      refine wp_sub [0, 1, 2, 3] rfl ?_
      obtain ⟨nm, nl, ns, ne, nk, fr, to, E, hI⟩ := hI
      refine law_turn hb hL hI h6 (by omega) (by omega) (fun h2 cs2 ss2 hI2 hc2 hs2 => ?_)
      refine wp_iinc (q := 3) (x := nI (6 * n)) (v := nI (6 * (n + 1))) (lv' := [(3, .int (nI (6 * (n + 1)))), (0, .ref 50), (1, .ref 1), (2, .ref 100)]) dL_law_1128 rfl (nI_6 n) (Nat.le_of_ble_eq_true rfl) rfl ?_
      refine wp_goto (tgt := 18) dL_law_1131 (by decide) ?_
      refine wp_sub [1, 2, 3, 0] rfl ?_
      exact ih (n + 1) cs2 ss2 h2 (by omega) (by omega) (by omega) hI2
    · skip
      refine wp_iload_n dL_law_18 rfl 3 rfl ?_
      refine wp_aload_n dL_law_19 rfl 0 rfl ?_
      refine wp_slen hb (mLw_X nn b L xs) dL_law_20 ?_
      refine wp_bipush (v := 6) dL_law_21 (by decide) ?_
      refine wp_isub dL_law_23 ?_
      refine wi_icmp_gt (tgt := 1134) ((6 * n : Nat)) (((L : Int) - 6)) (nIt (by omega)) hlen dL_law_24 (by decide) (fun _ => ?_) (fun c_1 => absurd (by omega) c_1)
      refine wp_iconst (v := 1) dL_law_1134 (by decide) ?_
      refine wp_zret dL_law_1135 rfl (by show cs ≤ 600000; omega) (by show ss ≤ 7302250; omega) rfl ?_
      exact hp h
