/-! ===== day: the walk, from its end ===== -/
theorem scN.now {m : Nat} : scN m (m + 1) := Or.inl rfl
theorem Eqx.row {P : Nat → Prop} {I J : In} {a : Nat} {f : Ar} (h : Eqx P I J) (ha : P a) : Eqx P I (row J a f) := fun b hb => by
  rw [row_o (fun q => hb (by rw [q]; exact ha))]; exact h b hb

set_option maxRecDepth 100000 in
set_option maxHeartbeats 1000000 in
theorem d286 {ro : Ro} {S : St} {I : In} {m : Nat} {F : Ar} {C : Int32} (L : LayM S m) {J : In} (hE : Eqx (scN m) I J) (hF : upd (J (m + 1)) 2 (J (m + 1) 2 + 1) = F) : V RX11 cX11_day 7 (some .int) "day" ro (rmD 4 0 0) (QM 0 0 (fun r S' I' => r = some (.int C) ∧ S' = S ∧ I' (m + 1) = F ∧ Eqx (scN m) I I')) 0 0 286 [.ref m, JJ, .int C, JJ, JJ, JJ, JJ] [] S J := by
  refine v_aload_n (n := 287) dX11_day_286 rfl rfl rfl ?_
  refine v_getR (n := 290) f_X11_9 rfl L.s L.g0 dX11_day_287 rfl ?_
  refine v_iconst (n := 291) (v := 2) dX11_day_290 c_2 rfl ?_
  refine v_dup2 (n := 292) dX11_day_291 ⟨rfl, rfl⟩ rfl ?_
  refine v_iald (n := 293) (j := 2) L.c0 (ix_lit rfl rfl rfl) dX11_day_292 rfl ?_
  refine v_iconst (n := 294) (v := 1) dX11_day_293 c_1 rfl ?_
  refine v_iadd (n := 295) dX11_day_294 rfl ?_
  refine v_iast (n := 296) (j := 2) L.c0 (ix_lit rfl rfl rfl) dX11_day_295 rfl ?_
  refine v_iload_n (n := 297) dX11_day_296 rfl rfl rfl ?_
  exact v_iret rfl ⟨rfl, rfl, by rw [row_set, row_s]; exact hF, hE.set scN.now⟩ ⟨l8 rfl, l8 rfl⟩ dX11_day_297

set_option maxRecDepth 100000 in
set_option maxHeartbeats 1000000 in
theorem d241 {ro : Ro} {S : St} {I : In} {m : Nat} {F : Ar} {C : Int32} (L : LayM S m) {X : Ar} {n : Nat} (h1 : X 1 = nI n) (hn : n ≤ 10) (hF : upd (snX X n) 2 (snX X n 2 + 1) = F) : ∀ k i, i ≤ n → n < i + k → ∀ J, J (m + 1) = snX X i → Eqx (scN m) I J → V RX11 cX11_day 7 (some .int) "day" ro (rmD 4 0 0) (QM 0 0 (fun r S' I' => r = some (.int C) ∧ S' = S ∧ I' (m + 1) = F ∧ Eqx (scN m) I I')) 0 0 241 [.ref m, JJ, .int C, JJ, JJ, JJ, .int (nI i)] [] S J := by
  intro k
  induction k with
  | zero => intro i hi hk; exact absurd hk (by omega)
  | succ k ih =>
    intro i hi hk J hX hE
    refine v_iload (n := 243) dX11_day_241 rfl rfl ?_
    refine v_aload_n (n := 244) dX11_day_243 rfl rfl rfl ?_
    refine v_getR (n := 247) f_X11_9 rfl L.s L.g0 dX11_day_244 rfl ?_
    refine v_iconst (n := 248) (v := 1) dX11_day_247 c_1 rfl ?_
    refine v_iald (n := 249) (j := 1) L.c0 (ix_lit rfl rfl rfl) dX11_day_248 rfl ?_
    refine v_icmp_ge (n := 252) (tgt := 286) dX11_day_249 (by decide) rfl (fun hq249 => ?_) (fun hq249 => ?_)
    · rw [hX, sn_o i (by omega), h1] at hq249
      obtain rfl : i = n := Nat.le_antisymm hi (le_out hq249 (by omega) (by omega))
      refine v_drop 6 (al' := [.ref m, JJ, .int C, JJ, JJ, JJ, JJ]) rfl ?_
      exact d286 L hE (by rw [hX]; exact hF)
    · rw [hX, sn_o i (by omega), h1] at hq249
      have hlt := nle_in hq249 (by omega) (by omega)
      refine v_aload_n (n := 253) dX11_day_252 rfl rfl rfl ?_
      refine v_iload (n := 255) dX11_day_253 rfl rfl ?_
      refine v_iconst (n := 256) (v := 1) dX11_day_255 c_1 rfl ?_
      refine v_aload_n (n := 257) dX11_day_256 rfl rfl rfl ?_
      refine v_iload (n := 259) dX11_day_257 rfl rfl ?_
      refine v_iconst (n := 260) (v := 1) dX11_day_259 c_1 rfl ?_
      refine v_cVi (n := 263) (x := (J (m + 1) (76 + 4 * i + 1))) mc_X11_of l_X11_110 iv_X11_of se_X11_of (ci := 10) ⟨by decide, rfl⟩ L.s (k_X11_of (y := i) (u := 1) L (by omega) (by decide)) ⟨rfl, rfl⟩ (l8 rfl) ⟨l8 rfl, l8 rfl⟩ rfl rfl (l8 rfl) dX11_day_260 rfl ?_
      refine v_aload_n (n := 264) dX11_day_263 rfl rfl rfl ?_
      refine v_getR (n := 267) f_X11_9 rfl L.s L.g0 dX11_day_264 rfl ?_
      refine v_iconst (n := 268) (v := 4) dX11_day_267 c_4 rfl ?_
      refine v_iald (n := 269) (j := 4) L.c0 (ix_lit rfl rfl rfl) dX11_day_268 rfl ?_
      refine v_iadd (n := 270) dX11_day_269 rfl ?_
      refine v_iconst (n := 271) (v := 0) dX11_day_270 c_0 rfl ?_
      refine v_sipush (n := 274) (v := 999) dX11_day_271 s_999 rfl ?_
      refine v_cSi (n := 277) (x := (win ((J (m + 1) (76 + 4 * i + 1)) + (J (m + 1) 4)) 0 999)) mc_X11_within l_X11_107 sta_X11_within k_X11_within ⟨rfl, rfl⟩ (l8 rfl) ⟨l8 rfl, l8 rfl⟩ rfl rfl (l8 rfl) dX11_day_274 rfl ?_
      refine v_cVv (n := 280) mc_X11_put l_X11_82 iv_X11_put se_X11_put (ci := 10) ⟨by decide, rfl⟩ L.s (k_X11_put (y := i) (u := 1) L (by omega) (by decide)) ⟨rfl, rfl⟩ (l8 rfl) ⟨l8 rfl, l8 rfl⟩ rfl rfl (l8 rfl) dX11_day_277 rfl ?_
      refine v_iinc (n := 283) (v := (nI i) + 1) (al' := [.ref m, JJ, .int C, JJ, JJ, JJ, .int ((nI i) + 1)]) dX11_day_280 rfl (by rw [c_1]) rfl rfl rfl ?_
      refine v_goto (tgt := 241) dX11_day_283 (by decide) ?_
      rw [nI_1]
      refine ih (i + 1) hlt (by omega) _ ?_ (hE.row scN.now)
      rw [row_s, hX, snX, sn_o i (by omega), sn_o i (by omega)]

theorem neg_s (i : Nat) : -(nI i) + (-1) = -(nI (i + 1)) := by rw [← nI_1, Int32.neg_add, Int32.sub_eq_add_neg]
theorem neg_int {i : Nat} (hi : i < 2 ^ 31) : (-(nI i)).toInt = -(i : Int) := by
  rw [Int32.toInt_neg, nI_toInt hi, Int.bmod_eq_of_le (by omega) (by omega)]
theorem negN {st : Int32} (h : -20 ≤ st.toInt ∧ st.toInt ≤ 20) : (-st).toNatClampNeg = (-st.toInt).toNat := by
  show (-st).toInt.toNat = _
  rw [Int32.toInt_neg, Int.bmod_eq_of_le (by omega) (by omega)]
theorem neg_le {i : Nat} {st : Int32} (h : -(nI i) ≤ st) (hi : i < 2 ^ 31) (hst : -20 ≤ st.toInt ∧ st.toInt ≤ 20) : (-st).toNatClampNeg ≤ i := by
  rw [Int32.le_iff_toInt_le, neg_int hi] at h
  rw [negN hst]; omega
theorem nneg_le {i : Nat} {st : Int32} (h : ¬ -(nI i) ≤ st) (hi : i < 2 ^ 31) (hst : -20 ≤ st.toInt ∧ st.toInt ≤ 20) : i < (-st).toNatClampNeg := by
  rw [Int32.le_iff_toInt_le, neg_int hi] at h
  rw [negN hst]; omega
theorem pos_le {i : Nat} {st : Int32} (h : st ≤ nI i) (hi : i < 2 ^ 31) : st.toNatClampNeg ≤ i := by
  rw [Int32.le_iff_toInt_le, nI_toInt hi] at h
  show st.toInt.toNat ≤ i
  omega
theorem npos_le {i : Nat} {st : Int32} (h : ¬ st ≤ nI i) (hi : i < 2 ^ 31) : i < st.toNatClampNeg := by
  rw [Int32.le_iff_toInt_le, nI_toInt hi] at h
  show i < st.toInt.toNat
  omega
theorem posN {st : Int32} (h : -20 ≤ st.toInt ∧ st.toInt ≤ 20) : st.toNatClampNeg ≤ 20 := by
  show st.toInt.toNat ≤ 20
  omega
theorem negN2 {st : Int32} (h : -20 ≤ st.toInt ∧ st.toInt ≤ 20) : (-st).toNatClampNeg ≤ 20 := by rw [negN h]; omega

set_option maxRecDepth 100000 in
set_option maxHeartbeats 1000000 in
theorem d181 {ro : Ro} {S : St} {I : In} {m : Nat} {F : Ar} {C : Int32} (L : LayM S m) {X : Ar} {n p T l : Nat} {st c : Int32} (h1 : X 1 = nI n) (hn : n ≤ 10) (h6 : X 6 = nI p) (hp : p < n) (h7 : X 7 = nI l) (hl : l ≤ 30) (hT : TXW X T) (hst : -20 ≤ st.toInt ∧ st.toInt ≤ 20) (hF : upd (snX (bwX X T l (-st).toNatClampNeg) n) 2 (snX (bwX X T l (-st).toNatClampNeg) n 2 + 1) = F) (hC : bwN X T l c (-st).toNatClampNeg = C) : ∀ k i, i ≤ (-st).toNatClampNeg → (-st).toNatClampNeg < i + k → ∀ J, J (m + 1) = bwX X T l i → Eqx (scN m) I J → V RX11 cX11_day 7 (some .int) "day" ro (rmD 4 0 0) (QM 0 0 (fun r S' I' => r = some (.int C) ∧ S' = S ∧ I' (m + 1) = F ∧ Eqx (scN m) I I')) 0 0 181 [.ref m, JJ, .int (bwN X T l c i), JJ, JJ, .int st, .int (-(nI i))] [] S J := by
  have hb20 := negN2 hst
  intro k
  induction k with
  | zero => intro i hi hk; exact absurd hk (by omega)
  | succ k ih =>
    intro i hi hk J hX hE
    refine v_iload (n := 183) dX11_day_181 rfl rfl ?_
    refine v_iload (n := 185) dX11_day_183 rfl rfl ?_
    refine v_icmp_le (n := 188) (tgt := 238) dX11_day_185 (by decide) rfl (fun hq185 => ?_) (fun hq185 => ?_)
    · have hbi : i = (-st).toNatClampNeg := by
        have := neg_le hq185 (by omega) hst
        omega
      refine v_iconst (n := 239) (v := 0) dX11_day_238 c_0 rfl ?_
      refine v_istore (n := 241) (al' := [.ref m, JJ, .int (bwN X T l c i), JJ, JJ, .int st, .int 0]) dX11_day_239 rfl rfl rfl ?_
      refine v_drop 5 (al' := [.ref m, JJ, .int (bwN X T l c i), JJ, JJ, JJ, .int 0]) rfl ?_
      subst hbi
      rw [hC]
      exact d241 L (by rw [(bw_spec (T := T) (l := l) h1 hn h6 hp _).2 1 (by decide) (by decide)]; exact h1) hn hF (n + 1) 0 (Nat.zero_le _) (by omega) J hX hE
    · have hlt := nneg_le hq185 (by omega) hst
      obtain ⟨⟨p1, hp1, hp6⟩, hkeep⟩ := bw_spec (T := T) (l := l) h1 hn h6 hp i
      obtain ⟨p2, hp2, hpk⟩ := bk_spec ((hkeep 1 (by decide) (by decide)).trans h1) hn hp6 hp1
      refine v_aload_n (n := 189) dX11_day_188 rfl rfl rfl ?_
      refine v_getR (n := 192) f_X11_9 rfl L.s L.g0 dX11_day_189 rfl ?_
      refine v_bipush (n := 194) (v := 6) dX11_day_192 b_6 rfl ?_
      refine v_aload_n (n := 195) dX11_day_194 rfl rfl rfl ?_
      refine v_getR (n := 198) f_X11_9 rfl L.s L.g0 dX11_day_195 rfl ?_
      refine v_bipush (n := 200) (v := 6) dX11_day_198 b_6 rfl ?_
      refine v_iald (n := 201) (j := 6) L.c0 (ix_lit rfl rfl rfl) dX11_day_200 rfl ?_
      refine v_aload_n (n := 202) dX11_day_201 rfl rfl rfl ?_
      refine v_getR (n := 205) f_X11_9 rfl L.s L.g0 dX11_day_202 rfl ?_
      refine v_iconst (n := 206) (v := 1) dX11_day_205 c_1 rfl ?_
      refine v_iald (n := 207) (j := 1) L.c0 (ix_lit rfl rfl rfl) dX11_day_206 rfl ?_
      refine v_iadd (n := 208) dX11_day_207 rfl ?_
      refine v_iconst (n := 209) (v := 1) dX11_day_208 c_1 rfl ?_
      refine v_isub (n := 210) dX11_day_209 rfl ?_
      refine v_aload_n (n := 211) dX11_day_210 rfl rfl rfl ?_
      refine v_getR (n := 214) f_X11_9 rfl L.s L.g0 dX11_day_211 rfl ?_
      refine v_iconst (n := 215) (v := 1) dX11_day_214 c_1 rfl ?_
      refine v_iald (n := 216) (j := 1) L.c0 (ix_lit rfl rfl rfl) dX11_day_215 rfl ?_
      refine v_irem (n := 217) dX11_day_216 (by rw [hX, hkeep 1 (by decide) (by decide), h1]; exact nI_ne0 (by omega) (by omega)) rfl ?_
      refine v_iast (n := 218) (j := 6) L.c0 (ix_lit rfl rfl rfl) dX11_day_217 rfl ?_
      obtain ⟨JX, hJX⟩ : ∃ J9q : In, J9q = (setI J (m + 1) 6 ((((J (m + 1) 6) + (J (m + 1) 1)) - 1) % (J (m + 1) 1))) := ⟨_, rfl⟩
      rw [← hJX]
      have hEX : Eqx (scN m) I JX := by rw [hJX]; exact hE.set scN.now
      have hJX : JX (m + 1) = bkP (bwX X T l i) := by rw [hJX, row_set, row_s, hX]; rfl
      have hTY : TXW (bkP (bwX X T l i)) T := hT.cong ((pk_un (by decide)).trans (hkeep 9 (by decide) (by decide))) (fun j hj => (pk_un (by omega)).trans (hkeep j (by omega) (by omega)))
      have h7Y : bkP (bwX X T l i) 7 = nI l := ((pk_un (by decide)).trans (hkeep 7 (by decide) (by decide))).trans h7
      refine v_iload_n (n := 219) dX11_day_218 rfl rfl rfl ?_
      refine v_aload_n (n := 220) dX11_day_219 rfl rfl rfl ?_
      refine v_aload_n (n := 221) dX11_day_220 rfl rfl rfl ?_
      refine v_getR (n := 224) f_X11_9 rfl L.s L.g0 dX11_day_221 rfl ?_
      refine v_bipush (n := 226) (v := 6) dX11_day_224 b_6 rfl ?_
      refine v_iald (n := 227) (j := 6) L.c0 (ix_lit rfl rfl rfl) dX11_day_226 rfl ?_
      rw [show JX (m + 1) 6 = nI p2 from by rw [hJX]; exact hpk]
      refine v_callV (n := 230) mc_X11_passes l_X11_157 iv_X11_passes se_X11_passes (ci := 10) ⟨by decide, rfl⟩ L.s (k_X11_passes (T := T) (l := l) (y := p2) L (by rw [hJX]; exact hTY) (by rw [hJX]; exact h7Y) hl (by omega)) ⟨rfl, rfl⟩ (l8 rfl) ⟨l8 rfl, l8 rfl⟩ rfl rfl (l8 rfl) dX11_day_227 rfl ?_
      rintro _ _ J1 ⟨rfl, rfl, hJ1, hE1⟩
      refine v_iadd (n := 231) dX11_day_230 rfl ?_
      refine v_istore_n (n := 232) (al' := [.ref m, JJ, .int ((bwN X T l c i) + (passN (JX (m + 1)) T l p2)), JJ, JJ, .int st, .int (-(nI i))]) dX11_day_231 rfl rfl rfl rfl ?_
      refine v_iinc (n := 235) (v := (-(nI i)) + (-1)) (al' := [.ref m, JJ, .int ((bwN X T l c i) + (passN (JX (m + 1)) T l p2)), JJ, JJ, .int st, .int ((-(nI i)) + (-1))]) dX11_day_232 rfl (by rw [c_m1]) rfl rfl rfl ?_
      refine v_goto (tgt := 181) dX11_day_235 (by decide) ?_
      have hpl : pl (bkP (bwX X T l i)) = p2 := by rw [pl, hpk, nI_clamp (by omega)]
      rw [show -(nI i) + (-1) = -(nI (i + 1)) from neg_s i]
      rw [show bwN X T l c i + passN (JX (m + 1)) T l p2 = bwN X T l c (i + 1) from by rw [bwN, hJX, hpl]]
      exact ih (i + 1) hlt (by omega) J1 (by rw [hJ1, hJX, bwX, hpl]) (hEX.tr hE1)

set_option maxRecDepth 100000 in
set_option maxHeartbeats 1000000 in
theorem d128 {ro : Ro} {S : St} {I : In} {m : Nat} {F : Ar} {C : Int32} (L : LayM S m) {X : Ar} {n p T l : Nat} {st : Int32} (h1 : X 1 = nI n) (hn : n ≤ 10) (h6 : X 6 = nI p) (hp : p < n) (h7 : X 7 = nI l) (hl : l ≤ 30) (hT : TXW X T) (hst : -20 ≤ st.toInt ∧ st.toInt ≤ 20) (hF : upd (snX (bwX (fwX X T l st.toNatClampNeg) T l (-st).toNatClampNeg) n) 2 (snX (bwX (fwX X T l st.toNatClampNeg) T l (-st).toNatClampNeg) n 2 + 1) = F) (hC : bwN (fwX X T l st.toNatClampNeg) T l (fwN X T l st.toNatClampNeg) (-st).toNatClampNeg = C) : ∀ k i, i ≤ st.toNatClampNeg → st.toNatClampNeg < i + k → ∀ J, J (m + 1) = fwX X T l i → Eqx (scN m) I J → V RX11 cX11_day 7 (some .int) "day" ro (rmD 4 0 0) (QM 0 0 (fun r S' I' => r = some (.int C) ∧ S' = S ∧ I' (m + 1) = F ∧ Eqx (scN m) I I')) 0 0 128 [.ref m, JJ, .int (fwN X T l i), JJ, JJ, .int st, .int (nI i)] [] S J := by
  have hb20 := posN hst
  intro k
  induction k with
  | zero => intro i hi hk; exact absurd hk (by omega)
  | succ k ih =>
    intro i hi hk J hX hE
    refine v_iload (n := 130) dX11_day_128 rfl rfl ?_
    refine v_iload (n := 132) dX11_day_130 rfl rfl ?_
    refine v_icmp_ge (n := 135) (tgt := 178) dX11_day_132 (by decide) rfl (fun hq132 => ?_) (fun hq132 => ?_)
    · have hbi : i = st.toNatClampNeg := by
        have := pos_le hq132 (by omega)
        omega
      refine v_iconst (n := 179) (v := 0) dX11_day_178 c_0 rfl ?_
      refine v_istore (n := 181) (al' := [.ref m, JJ, .int (fwN X T l i), JJ, JJ, .int st, .int 0]) dX11_day_179 rfl rfl rfl ?_
      subst hbi
      obtain ⟨⟨p1, hp1, hp6⟩, hkeep⟩ := fw_spec (T := T) (l := l) h1 hn h6 hp st.toNatClampNeg
      refine d181 L (c := fwN X T l st.toNatClampNeg) ((hkeep 1 (by decide) (by decide)).trans h1) hn hp6 hp1 ((hkeep 7 (by decide) (by decide)).trans h7) hl (hT.cong (hkeep 9 (by decide) (by decide)) (fun j hj => hkeep j (by omega) (by omega))) hst hF hC ((-st).toNatClampNeg + 1) 0 (Nat.zero_le _) (by omega) J hX hE
    · have hlt := npos_le hq132 (by omega)
      obtain ⟨⟨p1, hp1, hp6⟩, hkeep⟩ := fw_spec (T := T) (l := l) h1 hn h6 hp i
      have hTY : TXW (fwX X T l i) T := hT.cong (hkeep 9 (by decide) (by decide)) (fun j hj => hkeep j (by omega) (by omega))
      have h7Y : fwX X T l i 7 = nI l := (hkeep 7 (by decide) (by decide)).trans h7
      refine v_iload_n (n := 136) dX11_day_135 rfl rfl rfl ?_
      refine v_aload_n (n := 137) dX11_day_136 rfl rfl rfl ?_
      refine v_aload_n (n := 138) dX11_day_137 rfl rfl rfl ?_
      refine v_getR (n := 141) f_X11_9 rfl L.s L.g0 dX11_day_138 rfl ?_
      refine v_bipush (n := 143) (v := 6) dX11_day_141 b_6 rfl ?_
      refine v_iald (n := 144) (j := 6) L.c0 (ix_lit rfl rfl rfl) dX11_day_143 rfl ?_
      rw [show J (m + 1) 6 = nI p1 from by rw [hX]; exact hp6]
      refine v_callV (n := 147) mc_X11_passes l_X11_157 iv_X11_passes se_X11_passes (ci := 10) ⟨by decide, rfl⟩ L.s (k_X11_passes (T := T) (l := l) (y := p1) L (by rw [hX]; exact hTY) (by rw [hX]; exact h7Y) hl (by omega)) ⟨rfl, rfl⟩ (l8 rfl) ⟨l8 rfl, l8 rfl⟩ rfl rfl (l8 rfl) dX11_day_144 rfl ?_
      rintro _ _ J1 ⟨rfl, rfl, hJ1, hE1⟩
      have hpl : pl (fwX X T l i) = p1 := by rw [pl, hp6, nI_clamp (by omega)]
      have hz : ∀ j, j < 76 → J1 (m + 1) j = fwX X T l i j := fun j hj => by rw [hJ1, hX, pass_o (by omega) (by omega)]
      refine v_iadd (n := 148) dX11_day_147 rfl ?_
      refine v_istore_n (n := 149) (al' := [.ref m, JJ, .int ((fwN X T l i) + (passN (J (m + 1)) T l p1)), JJ, JJ, .int st, .int (nI i)]) dX11_day_148 rfl rfl rfl rfl ?_
      refine v_aload_n (n := 150) dX11_day_149 rfl rfl rfl ?_
      refine v_getR (n := 153) f_X11_9 rfl L.s L.g0 dX11_day_150 rfl ?_
      refine v_bipush (n := 155) (v := 6) dX11_day_153 b_6 rfl ?_
      refine v_aload_n (n := 156) dX11_day_155 rfl rfl rfl ?_
      refine v_getR (n := 159) f_X11_9 rfl L.s L.g0 dX11_day_156 rfl ?_
      refine v_bipush (n := 161) (v := 6) dX11_day_159 b_6 rfl ?_
      refine v_iald (n := 162) (j := 6) L.c0 (ix_lit rfl rfl rfl) dX11_day_161 rfl ?_
      refine v_iconst (n := 163) (v := 1) dX11_day_162 c_1 rfl ?_
      refine v_iadd (n := 164) dX11_day_163 rfl ?_
      refine v_aload_n (n := 165) dX11_day_164 rfl rfl rfl ?_
      refine v_getR (n := 168) f_X11_9 rfl L.s L.g0 dX11_day_165 rfl ?_
      refine v_iconst (n := 169) (v := 1) dX11_day_168 c_1 rfl ?_
      refine v_iald (n := 170) (j := 1) L.c0 (ix_lit rfl rfl rfl) dX11_day_169 rfl ?_
      refine v_irem (n := 171) dX11_day_170 (by rw [hz 1 (by decide), hkeep 1 (by decide) (by decide), h1]; exact nI_ne0 (by omega) (by omega)) rfl ?_
      refine v_iast (n := 172) (j := 6) L.c0 (ix_lit rfl rfl rfl) dX11_day_171 rfl ?_
      refine v_iinc (n := 175) (v := (nI i) + 1) (al' := [.ref m, JJ, .int ((fwN X T l i) + (passN (J (m + 1)) T l p1)), JJ, JJ, .int st, .int ((nI i) + 1)]) dX11_day_172 rfl (by rw [c_1]) rfl rfl rfl ?_
      refine v_goto (tgt := 128) dX11_day_175 (by decide) ?_
      rw [nI_1, show fwN X T l i + passN (J (m + 1)) T l p1 = fwN X T l (i + 1) from by rw [fwN, hX, hpl]]
      refine ih (i + 1) hlt (by omega) _ ?_ ((hE.tr hE1).set scN.now)
      rw [row_set, row_s, hz 6 (by decide), hz 1 (by decide), hJ1, hX, fwX, hpl]

