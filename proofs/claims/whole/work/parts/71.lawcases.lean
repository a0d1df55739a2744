/-! the law: one call, with any invariant I -/
def lw_st (I : (Nat → va_E) → Nat → Prop) (mh mm : gj_M) (as : List Value) (d : Nat) (C : Nat → va_E) (n : Nat) : Prop :=
  ∃ (k b : Int32) (n1 : Nat) (R1 R2 : (Nat → va_E) → Prop),
    gj_G mh d 1 6 0 0 0 (lv_args 0 (.ref 1 :: (as ++ [.ref 91]))) [] n C (fun r => r.1 = gj_iv k ∧ r.2.1 = n1 ∧ R1 r.2.2) ∧
    (∀ C1, R1 C1 → C1 0 = C 0 ∧ (∃ fs, C1 70 = .inr (5, fs)) ∧ gj_G mm d 0 0 0 0 0 (lv_args 0 (.ref 70 :: as)) [] n1 C1 (fun r => r.1 = gj_iv b ∧ r.2.1 = n1 ∧ R2 r.2.2)) ∧
    (∀ C2, R2 C2 → C2 0 = C 0 ∧ I C2 n1 ∧ (∃ fs, C2 70 = .inr (5, .int k :: fs)) ∧ (k = 0 → ∃ o : Nat → Int64, C2 91 = .inl (1, 1, .inr (.inl o)) ∧ o 0 = b.toInt64))
/-- .. of longs -/
def lw_sl (I : (Nat → va_E) → Nat → Prop) (mh mm : gj_M) (as : List Value) (d : Nat) (C : Nat → va_E) (n : Nat) : Prop :=
  ∃ (k : Int32) (b : Int64) (n1 : Nat) (R1 R2 : (Nat → va_E) → Prop),
    gj_G mh d 1 6 0 0 0 (lv_args 0 (.ref 1 :: (as ++ [.ref 91]))) [] n C (fun r => r.1 = gj_iv k ∧ r.2.1 = n1 ∧ R1 r.2.2) ∧
    (∀ C1, R1 C1 → C1 0 = C 0 ∧ (∃ fs, C1 70 = .inr (5, fs)) ∧ gj_G mm d 0 0 0 0 0 (lv_args 0 (.ref 70 :: as)) [] n1 C1 (fun r => r.1 = gj_lv2 b ∧ r.2.1 = n1 ∧ R2 r.2.2)) ∧
    (∀ C2, R2 C2 → C2 0 = C 0 ∧ I C2 n1 ∧ (∃ fs, C2 70 = .inr (5, .int k :: fs)) ∧ (k = 0 → ∃ o : Nat → Int64, C2 91 = .inl (1, 1, .inr (.inl o)) ∧ o 0 = b))
/-- .. without a helper -/
def lw_sd (I : (Nat → va_E) → Nat → Prop) (mc mm : gj_M) (as : List Value) (d : Nat) (C : Nat → va_E) (n : Nat) : Prop :=
  ∃ (v : Int32) (n1 : Nat) (R1 R2 : (Nat → va_E) → Prop), (∃ fs, C 1 = .inr (0, fs)) ∧
    gj_G mc d 1 6 0 0 0 (lv_args 0 (.ref 1 :: as)) [] n C (fun r => r.1 = gj_iv v ∧ r.2.1 = n1 ∧ R1 r.2.2) ∧
    (∀ C1, R1 C1 → C1 0 = C 0 ∧ (∃ fs, C1 70 = .inr (5, fs)) ∧ gj_G mm d 0 0 0 0 0 (lv_args 0 (.ref 70 :: as)) [] n1 C1 (fun r => r.1 = gj_iv v ∧ r.2.1 = n1 ∧ R2 r.2.2)) ∧
    (∀ C2, R2 C2 → C2 0 = C 0 ∧ I C2 n1)
theorem c_Mo_thrown0 {d K N n : Nat} {C : Nat → va_E} {k : Int32} {fs : List Value} (h : C 70 = .inr (5, .int k :: fs)) : gj_G md_Mo_thrown d K N 0 0 0 [(0, .ref 70)] [] n C (fun r => r = (gj_iv k, n, C)) := by
  refine gj_aload_n d_Mo_thrown_0 rfl ?_
  refine gj_get d_Mo_thrown_1 gf_Mo_7 h rfl ?_
  exact gj_iret rfl (Nat.zero_le _) (Nat.zero_le _) d_Mo_thrown_4 rfl
theorem gj_topl {md : gj_M} {d K N k w pc : Nat} {lc : List (Nat × Value)} {st : List Value} {n : Nat} {C : Nat → va_E} {Q : gj_R → Prop} {x y : Int64} (h : x = y) (kk : gj_G md d K N k w pc lc (.long y :: st) n C Q) : gj_G md d K N k w pc lc (.long x :: st) n C Q := h ▸ kk
set_option maxHeartbeats 2000000 in
theorem l_sign {d K N k w n i L : Nat} {C : Nat → va_E} {xs : Nat → Int32} {I : (Nat → va_E) → Nat → Prop} {Q : gj_R → Prop} (h0 : C 0 = .inl (999, L, .inl xs)) (hi : i + 5 ≤ L) (hL : L ≤ 2560) (hk : k + 1 ≤ K) (hw : w + 6 ≤ N) (HS : lw_st I md_La_sign md_Mo_sign [.int (xs (i + 1))] d C n) (HI : ∀ C2 n2, I C2 n2 → C2 0 = C 0 → gj_G md_La_law (d + 1) K N (k + 1) (w + 6) 1189 [(0, .ref (0)), (1, .ref (1)), (2, .ref (70)), (3, .ref (91)), (4, .int (nI i))] [] n2 C2 Q) : gj_G md_La_law (d + 1) K N k w 120 [(0, .ref (0)), (1, .ref (1)), (2, .ref (70)), (3, .ref (91)), (4, .int (nI i))] [] n C Q := by
  obtain ⟨kc, b, n1, R1, R2, HC, HM, HE⟩ := HS
  refine gj_aload_n d_La_law_120 rfl ?_
  refine gj_aload_n d_La_law_121 rfl ?_
  refine gj_iload d_La_law_122 rfl ?_
  refine gj_kc (v := 1) d_La_law_124 (by decide) ?_
  refine gj_iadd d_La_law_125 ?_
  refine gj_top (y := nI (i + 1)) (nI_add i 1) ?_
  refine gj_sld d_La_law_126 h0 (vp_in_nI (by omega) (by omega)) ?_
  refine gj_top (y := xs (i + 1)) (congrArg xs (nI_clamp (by omega))) ?_
  refine gj_aload_n d_La_law_127 rfl ?_
  refine gj_callS (as := [.ref 1, .int (xs (i + 1)), .ref 91]) (rest := []) (K1 := 1) (N1 := 6) d_La_law_128 mo_La_sign gw_232 gw_233 gw_19 pl_La_sign (Nat.le_of_ble_eq_true rfl) (Nat.le_of_ble_eq_true rfl) hk hw HC (fun E n2 C2 _ h => by obtain ⟨hv, -⟩ := h; exact nomatch hv) (fun v1 n2 C1 _ h => ?_)
  obtain ⟨hv, hn, hR1⟩ := h
  dsimp only [gj_iv] at hv hn
  cases hv
  subst hn
  obtain ⟨z0, ⟨fs2, z70⟩, HM1⟩ := HM C1 hR1
  have h01 := z0.trans h0
  refine gj_istore d_La_law_131 (by decide) ?_
  refine gj_aload_n d_La_law_133 rfl ?_
  refine gj_aload_n d_La_law_134 rfl ?_
  refine gj_iload d_La_law_135 rfl ?_
  refine gj_kc (v := 1) d_La_law_137 (by decide) ?_
  refine gj_iadd d_La_law_138 ?_
  refine gj_top (y := nI (i + 1)) (nI_add i 1) ?_
  refine gj_sld d_La_law_139 h01 (vp_in_nI (by omega) (by omega)) ?_
  refine gj_top (y := xs (i + 1)) (congrArg xs (nI_clamp (by omega))) ?_
  refine gj_callV (as := [.int (xs (i + 1))]) (rest := []) (K1 := 0) (N1 := 0) d_La_law_140 mo_Mo_sign gw_683 gw_684 gw_685 z70 rfl pl_Mo_sign (Nat.le_of_ble_eq_true rfl) (Nat.le_of_ble_eq_true rfl) (by omega) (by omega) HM1 (fun E n2 C2 _ h => by obtain ⟨hv, -⟩ := h; exact nomatch hv) (fun v1 n2 C2 _ h => ?_)
  obtain ⟨hv, hn, hR2⟩ := h
  dsimp only [gj_iv, gj_lv2] at hv hn
  cases hv
  subst hn
  obtain ⟨y0, yI, ⟨fs3, y70⟩, yo⟩ := HE C2 hR2
  refine gj_istore d_La_law_143 (by decide) ?_
  refine gj_aload_n d_La_law_145 rfl ?_
  refine gj_callV (as := []) (rest := []) (K1 := 0) (N1 := 0) d_La_law_146 mo_Mo_thrown gw_679 gw_680 gw_681 y70 rfl pl_Mo_thrown (Nat.le_of_ble_eq_true rfl) (Nat.le_of_ble_eq_true rfl) (by omega) (by omega) (c_Mo_thrown0 y70) (fun E n2 C2 _ h => by cases h) (fun v1 n2 C3 _ h => ?_)
  cases h
  refine gj_iload d_La_law_149 rfl ?_
  refine gj_icmp_eq (tgt := 156) d_La_law_151 (by decide) (fun _ => ?_) (fun h => absurd rfl h)
  refine gj_iload d_La_law_156 rfl ?_
  refine gj_if_ne (tgt := 173) d_La_law_158 (by decide) (fun _ => ?_) (fun hk0 => ?_)
  · refine gj_goto (tgt := 1189) d_La_law_173 (by decide) ?_
    refine gj_less (lc' := [(0, .ref (0)), (1, .ref (1)), (2, .ref (70)), (3, .ref (91)), (4, .int (nI i))]) ⟨rfl, rfl, rfl, rfl, rfl, trivial⟩ ?_
    exact HI C2 _ yI y0
  obtain ⟨o, y91, yb⟩ := yo hk0
  refine gj_aload_n d_La_law_161 rfl ?_
  refine gj_kc (v := 0) d_La_law_162 (by decide) ?_
  refine gj_lald d_La_law_163 y91 rfl (vp_in_nI (n := 0) (by omega) (by decide)) ?_
  refine gj_topl (y := b.toInt64) yb ?_
  refine gj_iload d_La_law_164 rfl ?_
  refine gj_i2l d_La_law_166 ?_
  refine gj_lcmp d_La_law_167 ?_
  refine gj_if_eq (tgt := 173) d_La_law_168 (by decide) (fun _ => ?_) (fun h => absurd ((lg_cmp_eq _ _).mpr rfl) h)
  refine gj_goto (tgt := 1189) d_La_law_173 (by decide) ?_
  refine gj_less (lc' := [(0, .ref (0)), (1, .ref (1)), (2, .ref (70)), (3, .ref (91)), (4, .int (nI i))]) ⟨rfl, rfl, rfl, rfl, rfl, trivial⟩ ?_
  exact HI C2 _ yI y0
set_option maxHeartbeats 2000000 in
theorem l_read {d K N k w n i L : Nat} {C : Nat → va_E} {xs : Nat → Int32} {I : (Nat → va_E) → Nat → Prop} {Q : gj_R → Prop} (h0 : C 0 = .inl (999, L, .inl xs)) (hi : i + 5 ≤ L) (hL : L ≤ 2560) (hk : k + 1 ≤ K) (hw : w + 6 ≤ N) (HS : lw_sd I md_RB_read md_Mo_read [] d C n) (HI : ∀ C2 n2, I C2 n2 → C2 0 = C 0 → gj_G md_La_law (d + 1) K N (k + 1) (w + 6) 1189 [(0, .ref (0)), (1, .ref (1)), (2, .ref (70)), (3, .ref (91)), (4, .int (nI i))] [] n2 C2 Q) : gj_G md_La_law (d + 1) K N k w 176 [(0, .ref (0)), (1, .ref (1)), (2, .ref (70)), (3, .ref (91)), (4, .int (nI i))] [] n C Q := by
  obtain ⟨v, n1, R1, R2, ⟨fs1, o1⟩, HC, HM, HE⟩ := HS
  refine gj_aload_n d_La_law_176 rfl ?_
  refine gj_callV (as := []) (rest := []) (K1 := 1) (N1 := 6) d_La_law_177 mo_RB_read gw_161 gw_162 gw_163 o1 rfl pl_RB_read (Nat.le_of_ble_eq_true rfl) (Nat.le_of_ble_eq_true rfl) hk hw HC (fun E n2 C2 _ h => by obtain ⟨hv, -⟩ := h; exact nomatch hv) (fun v1 n2 C1 _ h => ?_)
  obtain ⟨hv, hn, hR1⟩ := h
  dsimp only [gj_iv] at hv hn
  cases hv
  subst hn
  obtain ⟨z0, ⟨fs2, z70⟩, HM1⟩ := HM C1 hR1
  have h01 := z0.trans h0
  refine gj_aload_n d_La_law_180 rfl ?_
  refine gj_callV (as := []) (rest := [.int v]) (K1 := 0) (N1 := 0) d_La_law_181 mo_Mo_read gw_690 gw_691 gw_692 z70 rfl pl_Mo_read (Nat.le_of_ble_eq_true rfl) (Nat.le_of_ble_eq_true rfl) (by omega) (by omega) HM1 (fun E n2 C2 _ h => by obtain ⟨hv, -⟩ := h; exact nomatch hv) (fun v1 n2 C2 _ h => ?_)
  obtain ⟨hv, hn, hR2⟩ := h
  dsimp only [gj_iv, gj_lv2] at hv hn
  cases hv
  subst hn
  obtain ⟨y0, yI⟩ := HE C2 hR2
  refine gj_icmp_eq (tgt := 1189) d_La_law_184 (by decide) (fun _ => ?_) (fun h => absurd rfl h)
  exact HI C2 _ yI y0
set_option maxHeartbeats 2000000 in
theorem l_shipment {d K N k w n i L : Nat} {C : Nat → va_E} {xs : Nat → Int32} {I : (Nat → va_E) → Nat → Prop} {Q : gj_R → Prop} (h0 : C 0 = .inl (999, L, .inl xs)) (hi : i + 5 ≤ L) (hL : L ≤ 2560) (hk : k + 1 ≤ K) (hw : w + 6 ≤ N) (HS : lw_st I md_La_shipment md_Mo_shipment [.int (xs (i + 1)), .int (xs (i + 2)), .int (xs (i + 3))] d C n) (HI : ∀ C2 n2, I C2 n2 → C2 0 = C 0 → gj_G md_La_law (d + 1) K N (k + 1) (w + 6) 1189 [(0, .ref (0)), (1, .ref (1)), (2, .ref (70)), (3, .ref (91)), (4, .int (nI i))] [] n2 C2 Q) : gj_G md_La_law (d + 1) K N k w 189 [(0, .ref (0)), (1, .ref (1)), (2, .ref (70)), (3, .ref (91)), (4, .int (nI i))] [] n C Q := by
  obtain ⟨kc, b, n1, R1, R2, HC, HM, HE⟩ := HS
  refine gj_aload_n d_La_law_189 rfl ?_
  refine gj_aload_n d_La_law_190 rfl ?_
  refine gj_iload d_La_law_191 rfl ?_
  refine gj_kc (v := 1) d_La_law_193 (by decide) ?_
  refine gj_iadd d_La_law_194 ?_
  refine gj_top (y := nI (i + 1)) (nI_add i 1) ?_
  refine gj_sld d_La_law_195 h0 (vp_in_nI (by omega) (by omega)) ?_
  refine gj_top (y := xs (i + 1)) (congrArg xs (nI_clamp (by omega))) ?_
  refine gj_aload_n d_La_law_196 rfl ?_
  refine gj_iload d_La_law_197 rfl ?_
  refine gj_kc (v := 2) d_La_law_199 (by decide) ?_
  refine gj_iadd d_La_law_200 ?_
  refine gj_top (y := nI (i + 2)) (nI_add i 2) ?_
  refine gj_sld d_La_law_201 h0 (vp_in_nI (by omega) (by omega)) ?_
  refine gj_top (y := xs (i + 2)) (congrArg xs (nI_clamp (by omega))) ?_
  refine gj_aload_n d_La_law_202 rfl ?_
  refine gj_iload d_La_law_203 rfl ?_
  refine gj_kc (v := 3) d_La_law_205 (by decide) ?_
  refine gj_iadd d_La_law_206 ?_
  refine gj_top (y := nI (i + 3)) (nI_add i 3) ?_
  refine gj_sld d_La_law_207 h0 (vp_in_nI (by omega) (by omega)) ?_
  refine gj_top (y := xs (i + 3)) (congrArg xs (nI_clamp (by omega))) ?_
  refine gj_aload_n d_La_law_208 rfl ?_
  refine gj_callS (as := [.ref 1, .int (xs (i + 1)), .int (xs (i + 2)), .int (xs (i + 3)), .ref 91]) (rest := []) (K1 := 1) (N1 := 6) d_La_law_209 mo_La_shipment gw_334 gw_335 gw_19 pl_La_shipment (Nat.le_of_ble_eq_true rfl) (Nat.le_of_ble_eq_true rfl) hk hw HC (fun E n2 C2 _ h => by obtain ⟨hv, -⟩ := h; exact nomatch hv) (fun v1 n2 C1 _ h => ?_)
  obtain ⟨hv, hn, hR1⟩ := h
  dsimp only [gj_iv] at hv hn
  cases hv
  subst hn
  obtain ⟨z0, ⟨fs2, z70⟩, HM1⟩ := HM C1 hR1
  have h01 := z0.trans h0
  refine gj_istore d_La_law_212 (by decide) ?_
  refine gj_aload_n d_La_law_214 rfl ?_
  refine gj_aload_n d_La_law_215 rfl ?_
  refine gj_iload d_La_law_216 rfl ?_
  refine gj_kc (v := 1) d_La_law_218 (by decide) ?_
  refine gj_iadd d_La_law_219 ?_
  refine gj_top (y := nI (i + 1)) (nI_add i 1) ?_
  refine gj_sld d_La_law_220 h01 (vp_in_nI (by omega) (by omega)) ?_
  refine gj_top (y := xs (i + 1)) (congrArg xs (nI_clamp (by omega))) ?_
  refine gj_aload_n d_La_law_221 rfl ?_
  refine gj_iload d_La_law_222 rfl ?_
  refine gj_kc (v := 2) d_La_law_224 (by decide) ?_
  refine gj_iadd d_La_law_225 ?_
  refine gj_top (y := nI (i + 2)) (nI_add i 2) ?_
  refine gj_sld d_La_law_226 h01 (vp_in_nI (by omega) (by omega)) ?_
  refine gj_top (y := xs (i + 2)) (congrArg xs (nI_clamp (by omega))) ?_
  refine gj_aload_n d_La_law_227 rfl ?_
  refine gj_iload d_La_law_228 rfl ?_
  refine gj_kc (v := 3) d_La_law_230 (by decide) ?_
  refine gj_iadd d_La_law_231 ?_
  refine gj_top (y := nI (i + 3)) (nI_add i 3) ?_
  refine gj_sld d_La_law_232 h01 (vp_in_nI (by omega) (by omega)) ?_
  refine gj_top (y := xs (i + 3)) (congrArg xs (nI_clamp (by omega))) ?_
  refine gj_callV (as := [.int (xs (i + 1)), .int (xs (i + 2)), .int (xs (i + 3))]) (rest := []) (K1 := 0) (N1 := 0) d_La_law_233 mo_Mo_shipment gw_716 gw_717 gw_718 z70 rfl pl_Mo_shipment (Nat.le_of_ble_eq_true rfl) (Nat.le_of_ble_eq_true rfl) (by omega) (by omega) HM1 (fun E n2 C2 _ h => by obtain ⟨hv, -⟩ := h; exact nomatch hv) (fun v1 n2 C2 _ h => ?_)
  obtain ⟨hv, hn, hR2⟩ := h
  dsimp only [gj_iv, gj_lv2] at hv hn
  cases hv
  subst hn
  obtain ⟨y0, yI, ⟨fs3, y70⟩, yo⟩ := HE C2 hR2
  refine gj_istore d_La_law_236 (by decide) ?_
  refine gj_aload_n d_La_law_238 rfl ?_
  refine gj_callV (as := []) (rest := []) (K1 := 0) (N1 := 0) d_La_law_239 mo_Mo_thrown gw_679 gw_680 gw_681 y70 rfl pl_Mo_thrown (Nat.le_of_ble_eq_true rfl) (Nat.le_of_ble_eq_true rfl) (by omega) (by omega) (c_Mo_thrown0 y70) (fun E n2 C2 _ h => by cases h) (fun v1 n2 C3 _ h => ?_)
  cases h
  refine gj_iload d_La_law_242 rfl ?_
  refine gj_icmp_eq (tgt := 249) d_La_law_244 (by decide) (fun _ => ?_) (fun h => absurd rfl h)
  refine gj_iload d_La_law_249 rfl ?_
  refine gj_if_ne (tgt := 266) d_La_law_251 (by decide) (fun _ => ?_) (fun hk0 => ?_)
  · refine gj_goto (tgt := 1189) d_La_law_266 (by decide) ?_
    refine gj_less (lc' := [(0, .ref (0)), (1, .ref (1)), (2, .ref (70)), (3, .ref (91)), (4, .int (nI i))]) ⟨rfl, rfl, rfl, rfl, rfl, trivial⟩ ?_
    exact HI C2 _ yI y0
  obtain ⟨o, y91, yb⟩ := yo hk0
  refine gj_aload_n d_La_law_254 rfl ?_
  refine gj_kc (v := 0) d_La_law_255 (by decide) ?_
  refine gj_lald d_La_law_256 y91 rfl (vp_in_nI (n := 0) (by omega) (by decide)) ?_
  refine gj_topl (y := b.toInt64) yb ?_
  refine gj_iload d_La_law_257 rfl ?_
  refine gj_i2l d_La_law_259 ?_
  refine gj_lcmp d_La_law_260 ?_
  refine gj_if_eq (tgt := 266) d_La_law_261 (by decide) (fun _ => ?_) (fun h => absurd ((lg_cmp_eq _ _).mpr rfl) h)
  refine gj_goto (tgt := 1189) d_La_law_266 (by decide) ?_
  refine gj_less (lc' := [(0, .ref (0)), (1, .ref (1)), (2, .ref (70)), (3, .ref (91)), (4, .int (nI i))]) ⟨rfl, rfl, rfl, rfl, rfl, trivial⟩ ?_
  exact HI C2 _ yI y0
set_option maxHeartbeats 2000000 in
theorem l_weight {d K N k w n i L : Nat} {C : Nat → va_E} {xs : Nat → Int32} {I : (Nat → va_E) → Nat → Prop} {Q : gj_R → Prop} (h0 : C 0 = .inl (999, L, .inl xs)) (hi : i + 5 ≤ L) (hL : L ≤ 2560) (hk : k + 1 ≤ K) (hw : w + 6 ≤ N) (HS : lw_st I md_La_weight md_Mo_weight [.int (xs (i + 1)), .int (xs (i + 2))] d C n) (HI : ∀ C2 n2, I C2 n2 → C2 0 = C 0 → gj_G md_La_law (d + 1) K N (k + 1) (w + 6) 1189 [(0, .ref (0)), (1, .ref (1)), (2, .ref (70)), (3, .ref (91)), (4, .int (nI i))] [] n2 C2 Q) : gj_G md_La_law (d + 1) K N k w 269 [(0, .ref (0)), (1, .ref (1)), (2, .ref (70)), (3, .ref (91)), (4, .int (nI i))] [] n C Q := by
  obtain ⟨kc, b, n1, R1, R2, HC, HM, HE⟩ := HS
  refine gj_aload_n d_La_law_269 rfl ?_
  refine gj_aload_n d_La_law_270 rfl ?_
  refine gj_iload d_La_law_271 rfl ?_
  refine gj_kc (v := 1) d_La_law_273 (by decide) ?_
  refine gj_iadd d_La_law_274 ?_
  refine gj_top (y := nI (i + 1)) (nI_add i 1) ?_
  refine gj_sld d_La_law_275 h0 (vp_in_nI (by omega) (by omega)) ?_
  refine gj_top (y := xs (i + 1)) (congrArg xs (nI_clamp (by omega))) ?_
  refine gj_aload_n d_La_law_276 rfl ?_
  refine gj_iload d_La_law_277 rfl ?_
  refine gj_kc (v := 2) d_La_law_279 (by decide) ?_
  refine gj_iadd d_La_law_280 ?_
  refine gj_top (y := nI (i + 2)) (nI_add i 2) ?_
  refine gj_sld d_La_law_281 h0 (vp_in_nI (by omega) (by omega)) ?_
  refine gj_top (y := xs (i + 2)) (congrArg xs (nI_clamp (by omega))) ?_
  refine gj_aload_n d_La_law_282 rfl ?_
  refine gj_callS (as := [.ref 1, .int (xs (i + 1)), .int (xs (i + 2)), .ref 91]) (rest := []) (K1 := 1) (N1 := 6) d_La_law_283 mo_La_weight gw_376 gw_377 gw_19 pl_La_weight (Nat.le_of_ble_eq_true rfl) (Nat.le_of_ble_eq_true rfl) hk hw HC (fun E n2 C2 _ h => by obtain ⟨hv, -⟩ := h; exact nomatch hv) (fun v1 n2 C1 _ h => ?_)
  obtain ⟨hv, hn, hR1⟩ := h
  dsimp only [gj_iv] at hv hn
  cases hv
  subst hn
  obtain ⟨z0, ⟨fs2, z70⟩, HM1⟩ := HM C1 hR1
  have h01 := z0.trans h0
  refine gj_istore d_La_law_286 (by decide) ?_
  refine gj_aload_n d_La_law_288 rfl ?_
  refine gj_aload_n d_La_law_289 rfl ?_
  refine gj_iload d_La_law_290 rfl ?_
  refine gj_kc (v := 1) d_La_law_292 (by decide) ?_
  refine gj_iadd d_La_law_293 ?_
  refine gj_top (y := nI (i + 1)) (nI_add i 1) ?_
  refine gj_sld d_La_law_294 h01 (vp_in_nI (by omega) (by omega)) ?_
  refine gj_top (y := xs (i + 1)) (congrArg xs (nI_clamp (by omega))) ?_
  refine gj_aload_n d_La_law_295 rfl ?_
  refine gj_iload d_La_law_296 rfl ?_
  refine gj_kc (v := 2) d_La_law_298 (by decide) ?_
  refine gj_iadd d_La_law_299 ?_
  refine gj_top (y := nI (i + 2)) (nI_add i 2) ?_
  refine gj_sld d_La_law_300 h01 (vp_in_nI (by omega) (by omega)) ?_
  refine gj_top (y := xs (i + 2)) (congrArg xs (nI_clamp (by omega))) ?_
  refine gj_callV (as := [.int (xs (i + 1)), .int (xs (i + 2))]) (rest := []) (K1 := 0) (N1 := 0) d_La_law_301 mo_Mo_weight gw_721 gw_722 gw_723 z70 rfl pl_Mo_weight (Nat.le_of_ble_eq_true rfl) (Nat.le_of_ble_eq_true rfl) (by omega) (by omega) HM1 (fun E n2 C2 _ h => by obtain ⟨hv, -⟩ := h; exact nomatch hv) (fun v1 n2 C2 _ h => ?_)
  obtain ⟨hv, hn, hR2⟩ := h
  dsimp only [gj_iv, gj_lv2] at hv hn
  cases hv
  subst hn
  obtain ⟨y0, yI, ⟨fs3, y70⟩, yo⟩ := HE C2 hR2
  refine gj_istore d_La_law_304 (by decide) ?_
  refine gj_aload_n d_La_law_306 rfl ?_
  refine gj_callV (as := []) (rest := []) (K1 := 0) (N1 := 0) d_La_law_307 mo_Mo_thrown gw_679 gw_680 gw_681 y70 rfl pl_Mo_thrown (Nat.le_of_ble_eq_true rfl) (Nat.le_of_ble_eq_true rfl) (by omega) (by omega) (c_Mo_thrown0 y70) (fun E n2 C2 _ h => by cases h) (fun v1 n2 C3 _ h => ?_)
  cases h
  refine gj_iload d_La_law_310 rfl ?_
  refine gj_icmp_eq (tgt := 317) d_La_law_312 (by decide) (fun _ => ?_) (fun h => absurd rfl h)
  refine gj_iload d_La_law_317 rfl ?_
  refine gj_if_ne (tgt := 334) d_La_law_319 (by decide) (fun _ => ?_) (fun hk0 => ?_)
  · refine gj_goto (tgt := 1189) d_La_law_334 (by decide) ?_
    refine gj_less (lc' := [(0, .ref (0)), (1, .ref (1)), (2, .ref (70)), (3, .ref (91)), (4, .int (nI i))]) ⟨rfl, rfl, rfl, rfl, rfl, trivial⟩ ?_
    exact HI C2 _ yI y0
  obtain ⟨o, y91, yb⟩ := yo hk0
  refine gj_aload_n d_La_law_322 rfl ?_
  refine gj_kc (v := 0) d_La_law_323 (by decide) ?_
  refine gj_lald d_La_law_324 y91 rfl (vp_in_nI (n := 0) (by omega) (by decide)) ?_
  refine gj_topl (y := b.toInt64) yb ?_
  refine gj_iload d_La_law_325 rfl ?_
  refine gj_i2l d_La_law_327 ?_
  refine gj_lcmp d_La_law_328 ?_
  refine gj_if_eq (tgt := 334) d_La_law_329 (by decide) (fun _ => ?_) (fun h => absurd ((lg_cmp_eq _ _).mpr rfl) h)
  refine gj_goto (tgt := 1189) d_La_law_334 (by decide) ?_
  refine gj_less (lc' := [(0, .ref (0)), (1, .ref (1)), (2, .ref (70)), (3, .ref (91)), (4, .int (nI i))]) ⟨rfl, rfl, rfl, rfl, rfl, trivial⟩ ?_
  exact HI C2 _ yI y0
set_option maxHeartbeats 2000000 in
theorem l_price {d K N k w n i L : Nat} {C : Nat → va_E} {xs : Nat → Int32} {I : (Nat → va_E) → Nat → Prop} {Q : gj_R → Prop} (h0 : C 0 = .inl (999, L, .inl xs)) (hi : i + 5 ≤ L) (hL : L ≤ 2560) (hk : k + 1 ≤ K) (hw : w + 6 ≤ N) (HS : lw_st I md_La_price md_Mo_price [.int (xs (i + 1)), .int (xs (i + 2))] d C n) (HI : ∀ C2 n2, I C2 n2 → C2 0 = C 0 → gj_G md_La_law (d + 1) K N (k + 1) (w + 6) 1189 [(0, .ref (0)), (1, .ref (1)), (2, .ref (70)), (3, .ref (91)), (4, .int (nI i))] [] n2 C2 Q) : gj_G md_La_law (d + 1) K N k w 337 [(0, .ref (0)), (1, .ref (1)), (2, .ref (70)), (3, .ref (91)), (4, .int (nI i))] [] n C Q := by
  obtain ⟨kc, b, n1, R1, R2, HC, HM, HE⟩ := HS
  refine gj_aload_n d_La_law_337 rfl ?_
  refine gj_aload_n d_La_law_338 rfl ?_
  refine gj_iload d_La_law_339 rfl ?_
  refine gj_kc (v := 1) d_La_law_341 (by decide) ?_
  refine gj_iadd d_La_law_342 ?_
  refine gj_top (y := nI (i + 1)) (nI_add i 1) ?_
  refine gj_sld d_La_law_343 h0 (vp_in_nI (by omega) (by omega)) ?_
  refine gj_top (y := xs (i + 1)) (congrArg xs (nI_clamp (by omega))) ?_
  refine gj_aload_n d_La_law_344 rfl ?_
  refine gj_iload d_La_law_345 rfl ?_
  refine gj_kc (v := 2) d_La_law_347 (by decide) ?_
  refine gj_iadd d_La_law_348 ?_
  refine gj_top (y := nI (i + 2)) (nI_add i 2) ?_
  refine gj_sld d_La_law_349 h0 (vp_in_nI (by omega) (by omega)) ?_
  refine gj_top (y := xs (i + 2)) (congrArg xs (nI_clamp (by omega))) ?_
  refine gj_aload_n d_La_law_350 rfl ?_
  refine gj_callS (as := [.ref 1, .int (xs (i + 1)), .int (xs (i + 2)), .ref 91]) (rest := []) (K1 := 1) (N1 := 6) d_La_law_351 mo_La_price gw_436 gw_437 gw_19 pl_La_price (Nat.le_of_ble_eq_true rfl) (Nat.le_of_ble_eq_true rfl) hk hw HC (fun E n2 C2 _ h => by obtain ⟨hv, -⟩ := h; exact nomatch hv) (fun v1 n2 C1 _ h => ?_)
  obtain ⟨hv, hn, hR1⟩ := h
  dsimp only [gj_iv] at hv hn
  cases hv
  subst hn
  obtain ⟨z0, ⟨fs2, z70⟩, HM1⟩ := HM C1 hR1
  have h01 := z0.trans h0
  refine gj_istore d_La_law_354 (by decide) ?_
  refine gj_aload_n d_La_law_356 rfl ?_
  refine gj_aload_n d_La_law_357 rfl ?_
  refine gj_iload d_La_law_358 rfl ?_
  refine gj_kc (v := 1) d_La_law_360 (by decide) ?_
  refine gj_iadd d_La_law_361 ?_
  refine gj_top (y := nI (i + 1)) (nI_add i 1) ?_
  refine gj_sld d_La_law_362 h01 (vp_in_nI (by omega) (by omega)) ?_
  refine gj_top (y := xs (i + 1)) (congrArg xs (nI_clamp (by omega))) ?_
  refine gj_aload_n d_La_law_363 rfl ?_
  refine gj_iload d_La_law_364 rfl ?_
  refine gj_kc (v := 2) d_La_law_366 (by decide) ?_
  refine gj_iadd d_La_law_367 ?_
  refine gj_top (y := nI (i + 2)) (nI_add i 2) ?_
  refine gj_sld d_La_law_368 h01 (vp_in_nI (by omega) (by omega)) ?_
  refine gj_top (y := xs (i + 2)) (congrArg xs (nI_clamp (by omega))) ?_
  refine gj_callV (as := [.int (xs (i + 1)), .int (xs (i + 2))]) (rest := []) (K1 := 0) (N1 := 0) d_La_law_369 mo_Mo_price gw_737 gw_738 gw_739 z70 rfl pl_Mo_price (Nat.le_of_ble_eq_true rfl) (Nat.le_of_ble_eq_true rfl) (by omega) (by omega) HM1 (fun E n2 C2 _ h => by obtain ⟨hv, -⟩ := h; exact nomatch hv) (fun v1 n2 C2 _ h => ?_)
  obtain ⟨hv, hn, hR2⟩ := h
  dsimp only [gj_iv, gj_lv2] at hv hn
  cases hv
  subst hn
  obtain ⟨y0, yI, ⟨fs3, y70⟩, yo⟩ := HE C2 hR2
  refine gj_istore d_La_law_372 (by decide) ?_
  refine gj_aload_n d_La_law_374 rfl ?_
  refine gj_callV (as := []) (rest := []) (K1 := 0) (N1 := 0) d_La_law_375 mo_Mo_thrown gw_679 gw_680 gw_681 y70 rfl pl_Mo_thrown (Nat.le_of_ble_eq_true rfl) (Nat.le_of_ble_eq_true rfl) (by omega) (by omega) (c_Mo_thrown0 y70) (fun E n2 C2 _ h => by cases h) (fun v1 n2 C3 _ h => ?_)
  cases h
  refine gj_iload d_La_law_378 rfl ?_
  refine gj_icmp_eq (tgt := 385) d_La_law_380 (by decide) (fun _ => ?_) (fun h => absurd rfl h)
  refine gj_iload d_La_law_385 rfl ?_
  refine gj_if_ne (tgt := 402) d_La_law_387 (by decide) (fun _ => ?_) (fun hk0 => ?_)
  · refine gj_goto (tgt := 1189) d_La_law_402 (by decide) ?_
    refine gj_less (lc' := [(0, .ref (0)), (1, .ref (1)), (2, .ref (70)), (3, .ref (91)), (4, .int (nI i))]) ⟨rfl, rfl, rfl, rfl, rfl, trivial⟩ ?_
    exact HI C2 _ yI y0
  obtain ⟨o, y91, yb⟩ := yo hk0
  refine gj_aload_n d_La_law_390 rfl ?_
  refine gj_kc (v := 0) d_La_law_391 (by decide) ?_
  refine gj_lald d_La_law_392 y91 rfl (vp_in_nI (n := 0) (by omega) (by decide)) ?_
  refine gj_topl (y := b.toInt64) yb ?_
  refine gj_iload d_La_law_393 rfl ?_
  refine gj_i2l d_La_law_395 ?_
  refine gj_lcmp d_La_law_396 ?_
  refine gj_if_eq (tgt := 402) d_La_law_397 (by decide) (fun _ => ?_) (fun h => absurd ((lg_cmp_eq _ _).mpr rfl) h)
  refine gj_goto (tgt := 1189) d_La_law_402 (by decide) ?_
  refine gj_less (lc' := [(0, .ref (0)), (1, .ref (1)), (2, .ref (70)), (3, .ref (91)), (4, .int (nI i))]) ⟨rfl, rfl, rfl, rfl, rfl, trivial⟩ ?_
  exact HI C2 _ yI y0
set_option maxHeartbeats 2000000 in
theorem l_cheapest {d K N k w n i L : Nat} {C : Nat → va_E} {xs : Nat → Int32} {I : (Nat → va_E) → Nat → Prop} {Q : gj_R → Prop} (h0 : C 0 = .inl (999, L, .inl xs)) (hi : i + 5 ≤ L) (hL : L ≤ 2560) (hk : k + 1 ≤ K) (hw : w + 6 ≤ N) (HS : lw_st I md_La_cheapest md_Mo_cheapest [.int (xs (i + 1))] d C n) (HI : ∀ C2 n2, I C2 n2 → C2 0 = C 0 → gj_G md_La_law (d + 1) K N (k + 1) (w + 6) 1189 [(0, .ref (0)), (1, .ref (1)), (2, .ref (70)), (3, .ref (91)), (4, .int (nI i))] [] n2 C2 Q) : gj_G md_La_law (d + 1) K N k w 405 [(0, .ref (0)), (1, .ref (1)), (2, .ref (70)), (3, .ref (91)), (4, .int (nI i))] [] n C Q := by
  obtain ⟨kc, b, n1, R1, R2, HC, HM, HE⟩ := HS
  refine gj_aload_n d_La_law_405 rfl ?_
  refine gj_aload_n d_La_law_406 rfl ?_
  refine gj_iload d_La_law_407 rfl ?_
  refine gj_kc (v := 1) d_La_law_409 (by decide) ?_
  refine gj_iadd d_La_law_410 ?_
  refine gj_top (y := nI (i + 1)) (nI_add i 1) ?_
  refine gj_sld d_La_law_411 h0 (vp_in_nI (by omega) (by omega)) ?_
  refine gj_top (y := xs (i + 1)) (congrArg xs (nI_clamp (by omega))) ?_
  refine gj_aload_n d_La_law_412 rfl ?_
  refine gj_callS (as := [.ref 1, .int (xs (i + 1)), .ref 91]) (rest := []) (K1 := 1) (N1 := 6) d_La_law_413 mo_La_cheapest gw_464 gw_465 gw_19 pl_La_cheapest (Nat.le_of_ble_eq_true rfl) (Nat.le_of_ble_eq_true rfl) hk hw HC (fun E n2 C2 _ h => by obtain ⟨hv, -⟩ := h; exact nomatch hv) (fun v1 n2 C1 _ h => ?_)
  obtain ⟨hv, hn, hR1⟩ := h
  dsimp only [gj_iv] at hv hn
  cases hv
  subst hn
  obtain ⟨z0, ⟨fs2, z70⟩, HM1⟩ := HM C1 hR1
  have h01 := z0.trans h0
  refine gj_istore d_La_law_416 (by decide) ?_
  refine gj_aload_n d_La_law_418 rfl ?_
  refine gj_aload_n d_La_law_419 rfl ?_
  refine gj_iload d_La_law_420 rfl ?_
  refine gj_kc (v := 1) d_La_law_422 (by decide) ?_
  refine gj_iadd d_La_law_423 ?_
  refine gj_top (y := nI (i + 1)) (nI_add i 1) ?_
  refine gj_sld d_La_law_424 h01 (vp_in_nI (by omega) (by omega)) ?_
  refine gj_top (y := xs (i + 1)) (congrArg xs (nI_clamp (by omega))) ?_
  refine gj_callV (as := [.int (xs (i + 1))]) (rest := []) (K1 := 0) (N1 := 0) d_La_law_425 mo_Mo_cheapest gw_752 gw_753 gw_754 z70 rfl pl_Mo_cheapest (Nat.le_of_ble_eq_true rfl) (Nat.le_of_ble_eq_true rfl) (by omega) (by omega) HM1 (fun E n2 C2 _ h => by obtain ⟨hv, -⟩ := h; exact nomatch hv) (fun v1 n2 C2 _ h => ?_)
  obtain ⟨hv, hn, hR2⟩ := h
  dsimp only [gj_iv, gj_lv2] at hv hn
  cases hv
  subst hn
  obtain ⟨y0, yI, ⟨fs3, y70⟩, yo⟩ := HE C2 hR2
  refine gj_istore d_La_law_428 (by decide) ?_
  refine gj_aload_n d_La_law_430 rfl ?_
  refine gj_callV (as := []) (rest := []) (K1 := 0) (N1 := 0) d_La_law_431 mo_Mo_thrown gw_679 gw_680 gw_681 y70 rfl pl_Mo_thrown (Nat.le_of_ble_eq_true rfl) (Nat.le_of_ble_eq_true rfl) (by omega) (by omega) (c_Mo_thrown0 y70) (fun E n2 C2 _ h => by cases h) (fun v1 n2 C3 _ h => ?_)
  cases h
  refine gj_iload d_La_law_434 rfl ?_
  refine gj_icmp_eq (tgt := 441) d_La_law_436 (by decide) (fun _ => ?_) (fun h => absurd rfl h)
  refine gj_iload d_La_law_441 rfl ?_
  refine gj_if_ne (tgt := 458) d_La_law_443 (by decide) (fun _ => ?_) (fun hk0 => ?_)
  · refine gj_goto (tgt := 1189) d_La_law_458 (by decide) ?_
    refine gj_less (lc' := [(0, .ref (0)), (1, .ref (1)), (2, .ref (70)), (3, .ref (91)), (4, .int (nI i))]) ⟨rfl, rfl, rfl, rfl, rfl, trivial⟩ ?_
    exact HI C2 _ yI y0
  obtain ⟨o, y91, yb⟩ := yo hk0
  refine gj_aload_n d_La_law_446 rfl ?_
  refine gj_kc (v := 0) d_La_law_447 (by decide) ?_
  refine gj_lald d_La_law_448 y91 rfl (vp_in_nI (n := 0) (by omega) (by decide)) ?_
  refine gj_topl (y := b.toInt64) yb ?_
  refine gj_iload d_La_law_449 rfl ?_
  refine gj_i2l d_La_law_451 ?_
  refine gj_lcmp d_La_law_452 ?_
  refine gj_if_eq (tgt := 458) d_La_law_453 (by decide) (fun _ => ?_) (fun h => absurd ((lg_cmp_eq _ _).mpr rfl) h)
  refine gj_goto (tgt := 1189) d_La_law_458 (by decide) ?_
  refine gj_less (lc' := [(0, .ref (0)), (1, .ref (1)), (2, .ref (70)), (3, .ref (91)), (4, .int (nI i))]) ⟨rfl, rfl, rfl, rfl, rfl, trivial⟩ ?_
  exact HI C2 _ yI y0
set_option maxHeartbeats 2000000 in
theorem l_parcels {d K N k w n i L : Nat} {C : Nat → va_E} {xs : Nat → Int32} {I : (Nat → va_E) → Nat → Prop} {Q : gj_R → Prop} (h0 : C 0 = .inl (999, L, .inl xs)) (hi : i + 5 ≤ L) (hL : L ≤ 2560) (hk : k + 1 ≤ K) (hw : w + 6 ≤ N) (HS : lw_st I md_La_parcels md_Mo_parcels [.int (xs (i + 1)), .int (xs (i + 2))] d C n) (HI : ∀ C2 n2, I C2 n2 → C2 0 = C 0 → gj_G md_La_law (d + 1) K N (k + 1) (w + 6) 1189 [(0, .ref (0)), (1, .ref (1)), (2, .ref (70)), (3, .ref (91)), (4, .int (nI i))] [] n2 C2 Q) : gj_G md_La_law (d + 1) K N k w 461 [(0, .ref (0)), (1, .ref (1)), (2, .ref (70)), (3, .ref (91)), (4, .int (nI i))] [] n C Q := by
  obtain ⟨kc, b, n1, R1, R2, HC, HM, HE⟩ := HS
  refine gj_aload_n d_La_law_461 rfl ?_
  refine gj_aload_n d_La_law_462 rfl ?_
  refine gj_iload d_La_law_463 rfl ?_
  refine gj_kc (v := 1) d_La_law_465 (by decide) ?_
  refine gj_iadd d_La_law_466 ?_
  refine gj_top (y := nI (i + 1)) (nI_add i 1) ?_
  refine gj_sld d_La_law_467 h0 (vp_in_nI (by omega) (by omega)) ?_
  refine gj_top (y := xs (i + 1)) (congrArg xs (nI_clamp (by omega))) ?_
  refine gj_aload_n d_La_law_468 rfl ?_
  refine gj_iload d_La_law_469 rfl ?_
  refine gj_kc (v := 2) d_La_law_471 (by decide) ?_
  refine gj_iadd d_La_law_472 ?_
  refine gj_top (y := nI (i + 2)) (nI_add i 2) ?_
  refine gj_sld d_La_law_473 h0 (vp_in_nI (by omega) (by omega)) ?_
  refine gj_top (y := xs (i + 2)) (congrArg xs (nI_clamp (by omega))) ?_
  refine gj_aload_n d_La_law_474 rfl ?_
  refine gj_callS (as := [.ref 1, .int (xs (i + 1)), .int (xs (i + 2)), .ref 91]) (rest := []) (K1 := 1) (N1 := 6) d_La_law_475 mo_La_parcels gw_471 gw_472 gw_19 pl_La_parcels (Nat.le_of_ble_eq_true rfl) (Nat.le_of_ble_eq_true rfl) hk hw HC (fun E n2 C2 _ h => by obtain ⟨hv, -⟩ := h; exact nomatch hv) (fun v1 n2 C1 _ h => ?_)
  obtain ⟨hv, hn, hR1⟩ := h
  dsimp only [gj_iv] at hv hn
  cases hv
  subst hn
  obtain ⟨z0, ⟨fs2, z70⟩, HM1⟩ := HM C1 hR1
  have h01 := z0.trans h0
  refine gj_istore d_La_law_478 (by decide) ?_
  refine gj_aload_n d_La_law_480 rfl ?_
  refine gj_aload_n d_La_law_481 rfl ?_
  refine gj_iload d_La_law_482 rfl ?_
  refine gj_kc (v := 1) d_La_law_484 (by decide) ?_
  refine gj_iadd d_La_law_485 ?_
  refine gj_top (y := nI (i + 1)) (nI_add i 1) ?_
  refine gj_sld d_La_law_486 h01 (vp_in_nI (by omega) (by omega)) ?_
  refine gj_top (y := xs (i + 1)) (congrArg xs (nI_clamp (by omega))) ?_
  refine gj_aload_n d_La_law_487 rfl ?_
  refine gj_iload d_La_law_488 rfl ?_
  refine gj_kc (v := 2) d_La_law_490 (by decide) ?_
  refine gj_iadd d_La_law_491 ?_
  refine gj_top (y := nI (i + 2)) (nI_add i 2) ?_
  refine gj_sld d_La_law_492 h01 (vp_in_nI (by omega) (by omega)) ?_
  refine gj_top (y := xs (i + 2)) (congrArg xs (nI_clamp (by omega))) ?_
  refine gj_callV (as := [.int (xs (i + 1)), .int (xs (i + 2))]) (rest := []) (K1 := 0) (N1 := 0) d_La_law_493 mo_Mo_parcels gw_756 gw_757 gw_758 z70 rfl pl_Mo_parcels (Nat.le_of_ble_eq_true rfl) (Nat.le_of_ble_eq_true rfl) (by omega) (by omega) HM1 (fun E n2 C2 _ h => by obtain ⟨hv, -⟩ := h; exact nomatch hv) (fun v1 n2 C2 _ h => ?_)
  obtain ⟨hv, hn, hR2⟩ := h
  dsimp only [gj_iv, gj_lv2] at hv hn
  cases hv
  subst hn
  obtain ⟨y0, yI, ⟨fs3, y70⟩, yo⟩ := HE C2 hR2
  refine gj_istore d_La_law_496 (by decide) ?_
  refine gj_aload_n d_La_law_498 rfl ?_
  refine gj_callV (as := []) (rest := []) (K1 := 0) (N1 := 0) d_La_law_499 mo_Mo_thrown gw_679 gw_680 gw_681 y70 rfl pl_Mo_thrown (Nat.le_of_ble_eq_true rfl) (Nat.le_of_ble_eq_true rfl) (by omega) (by omega) (c_Mo_thrown0 y70) (fun E n2 C2 _ h => by cases h) (fun v1 n2 C3 _ h => ?_)
  cases h
  refine gj_iload d_La_law_502 rfl ?_
  refine gj_icmp_eq (tgt := 509) d_La_law_504 (by decide) (fun _ => ?_) (fun h => absurd rfl h)
  refine gj_iload d_La_law_509 rfl ?_
  refine gj_if_ne (tgt := 526) d_La_law_511 (by decide) (fun _ => ?_) (fun hk0 => ?_)
  · refine gj_goto (tgt := 1189) d_La_law_526 (by decide) ?_
    refine gj_less (lc' := [(0, .ref (0)), (1, .ref (1)), (2, .ref (70)), (3, .ref (91)), (4, .int (nI i))]) ⟨rfl, rfl, rfl, rfl, rfl, trivial⟩ ?_
    exact HI C2 _ yI y0
  obtain ⟨o, y91, yb⟩ := yo hk0
  refine gj_aload_n d_La_law_514 rfl ?_
  refine gj_kc (v := 0) d_La_law_515 (by decide) ?_
  refine gj_lald d_La_law_516 y91 rfl (vp_in_nI (n := 0) (by omega) (by decide)) ?_
  refine gj_topl (y := b.toInt64) yb ?_
  refine gj_iload d_La_law_517 rfl ?_
  refine gj_i2l d_La_law_519 ?_
  refine gj_lcmp d_La_law_520 ?_
  refine gj_if_eq (tgt := 526) d_La_law_521 (by decide) (fun _ => ?_) (fun h => absurd ((lg_cmp_eq _ _).mpr rfl) h)
  refine gj_goto (tgt := 1189) d_La_law_526 (by decide) ?_
  refine gj_less (lc' := [(0, .ref (0)), (1, .ref (1)), (2, .ref (70)), (3, .ref (91)), (4, .int (nI i))]) ⟨rfl, rfl, rfl, rfl, rfl, trivial⟩ ?_
  exact HI C2 _ yI y0
set_option maxHeartbeats 2000000 in
theorem l_contract {d K N k w n i L : Nat} {C : Nat → va_E} {xs : Nat → Int32} {I : (Nat → va_E) → Nat → Prop} {Q : gj_R → Prop} (h0 : C 0 = .inl (999, L, .inl xs)) (hi : i + 5 ≤ L) (hL : L ≤ 2560) (hk : k + 1 ≤ K) (hw : w + 6 ≤ N) (HS : lw_st I md_La_contract md_Mo_contract [.int (xs (i + 1)), .int (xs (i + 2)), .int (xs (i + 3)), .int (xs (i + 4))] d C n) (HI : ∀ C2 n2, I C2 n2 → C2 0 = C 0 → gj_G md_La_law (d + 1) K N (k + 1) (w + 6) 1189 [(0, .ref (0)), (1, .ref (1)), (2, .ref (70)), (3, .ref (91)), (4, .int (nI i))] [] n2 C2 Q) : gj_G md_La_law (d + 1) K N k w 529 [(0, .ref (0)), (1, .ref (1)), (2, .ref (70)), (3, .ref (91)), (4, .int (nI i))] [] n C Q := by
  obtain ⟨kc, b, n1, R1, R2, HC, HM, HE⟩ := HS
  refine gj_aload_n d_La_law_529 rfl ?_
  refine gj_aload_n d_La_law_530 rfl ?_
  refine gj_iload d_La_law_531 rfl ?_
  refine gj_kc (v := 1) d_La_law_533 (by decide) ?_
  refine gj_iadd d_La_law_534 ?_
  refine gj_top (y := nI (i + 1)) (nI_add i 1) ?_
  refine gj_sld d_La_law_535 h0 (vp_in_nI (by omega) (by omega)) ?_
  refine gj_top (y := xs (i + 1)) (congrArg xs (nI_clamp (by omega))) ?_
  refine gj_aload_n d_La_law_536 rfl ?_
  refine gj_iload d_La_law_537 rfl ?_
  refine gj_kc (v := 2) d_La_law_539 (by decide) ?_
  refine gj_iadd d_La_law_540 ?_
  refine gj_top (y := nI (i + 2)) (nI_add i 2) ?_
  refine gj_sld d_La_law_541 h0 (vp_in_nI (by omega) (by omega)) ?_
  refine gj_top (y := xs (i + 2)) (congrArg xs (nI_clamp (by omega))) ?_
  refine gj_aload_n d_La_law_542 rfl ?_
  refine gj_iload d_La_law_543 rfl ?_
  refine gj_kc (v := 3) d_La_law_545 (by decide) ?_
  refine gj_iadd d_La_law_546 ?_
  refine gj_top (y := nI (i + 3)) (nI_add i 3) ?_
  refine gj_sld d_La_law_547 h0 (vp_in_nI (by omega) (by omega)) ?_
  refine gj_top (y := xs (i + 3)) (congrArg xs (nI_clamp (by omega))) ?_
  refine gj_aload_n d_La_law_548 rfl ?_
  refine gj_iload d_La_law_549 rfl ?_
  refine gj_kc (v := 4) d_La_law_551 (by decide) ?_
  refine gj_iadd d_La_law_552 ?_
  refine gj_top (y := nI (i + 4)) (nI_add i 4) ?_
  refine gj_sld d_La_law_553 h0 (vp_in_nI (by omega) (by omega)) ?_
  refine gj_top (y := xs (i + 4)) (congrArg xs (nI_clamp (by omega))) ?_
  refine gj_aload_n d_La_law_554 rfl ?_
  refine gj_callS (as := [.ref 1, .int (xs (i + 1)), .int (xs (i + 2)), .int (xs (i + 3)), .int (xs (i + 4)), .ref 91]) (rest := []) (K1 := 1) (N1 := 6) d_La_law_555 mo_La_contract gw_483 gw_484 gw_19 pl_La_contract (Nat.le_of_ble_eq_true rfl) (Nat.le_of_ble_eq_true rfl) hk hw HC (fun E n2 C2 _ h => by obtain ⟨hv, -⟩ := h; exact nomatch hv) (fun v1 n2 C1 _ h => ?_)
  obtain ⟨hv, hn, hR1⟩ := h
  dsimp only [gj_iv] at hv hn
  cases hv
  subst hn
  obtain ⟨z0, ⟨fs2, z70⟩, HM1⟩ := HM C1 hR1
  have h01 := z0.trans h0
  refine gj_istore d_La_law_558 (by decide) ?_
  refine gj_aload_n d_La_law_560 rfl ?_
  refine gj_aload_n d_La_law_561 rfl ?_
  refine gj_iload d_La_law_562 rfl ?_
  refine gj_kc (v := 1) d_La_law_564 (by decide) ?_
  refine gj_iadd d_La_law_565 ?_
  refine gj_top (y := nI (i + 1)) (nI_add i 1) ?_
  refine gj_sld d_La_law_566 h01 (vp_in_nI (by omega) (by omega)) ?_
  refine gj_top (y := xs (i + 1)) (congrArg xs (nI_clamp (by omega))) ?_
  refine gj_aload_n d_La_law_567 rfl ?_
  refine gj_iload d_La_law_568 rfl ?_
  refine gj_kc (v := 2) d_La_law_570 (by decide) ?_
  refine gj_iadd d_La_law_571 ?_
  refine gj_top (y := nI (i + 2)) (nI_add i 2) ?_
  refine gj_sld d_La_law_572 h01 (vp_in_nI (by omega) (by omega)) ?_
  refine gj_top (y := xs (i + 2)) (congrArg xs (nI_clamp (by omega))) ?_
  refine gj_aload_n d_La_law_573 rfl ?_
  refine gj_iload d_La_law_574 rfl ?_
  refine gj_kc (v := 3) d_La_law_576 (by decide) ?_
  refine gj_iadd d_La_law_577 ?_
  refine gj_top (y := nI (i + 3)) (nI_add i 3) ?_
  refine gj_sld d_La_law_578 h01 (vp_in_nI (by omega) (by omega)) ?_
  refine gj_top (y := xs (i + 3)) (congrArg xs (nI_clamp (by omega))) ?_
  refine gj_aload_n d_La_law_579 rfl ?_
  refine gj_iload d_La_law_580 rfl ?_
  refine gj_kc (v := 4) d_La_law_582 (by decide) ?_
  refine gj_iadd d_La_law_583 ?_
  refine gj_top (y := nI (i + 4)) (nI_add i 4) ?_
  refine gj_sld d_La_law_584 h01 (vp_in_nI (by omega) (by omega)) ?_
  refine gj_top (y := xs (i + 4)) (congrArg xs (nI_clamp (by omega))) ?_
  refine gj_callV (as := [.int (xs (i + 1)), .int (xs (i + 2)), .int (xs (i + 3)), .int (xs (i + 4))]) (rest := []) (K1 := 0) (N1 := 0) d_La_law_585 mo_Mo_contract gw_760 gw_761 gw_762 z70 rfl pl_Mo_contract (Nat.le_of_ble_eq_true rfl) (Nat.le_of_ble_eq_true rfl) (by omega) (by omega) HM1 (fun E n2 C2 _ h => by obtain ⟨hv, -⟩ := h; exact nomatch hv) (fun v1 n2 C2 _ h => ?_)
  obtain ⟨hv, hn, hR2⟩ := h
  dsimp only [gj_iv, gj_lv2] at hv hn
  cases hv
  subst hn
  obtain ⟨y0, yI, ⟨fs3, y70⟩, yo⟩ := HE C2 hR2
  refine gj_istore d_La_law_588 (by decide) ?_
  refine gj_aload_n d_La_law_590 rfl ?_
  refine gj_callV (as := []) (rest := []) (K1 := 0) (N1 := 0) d_La_law_591 mo_Mo_thrown gw_679 gw_680 gw_681 y70 rfl pl_Mo_thrown (Nat.le_of_ble_eq_true rfl) (Nat.le_of_ble_eq_true rfl) (by omega) (by omega) (c_Mo_thrown0 y70) (fun E n2 C2 _ h => by cases h) (fun v1 n2 C3 _ h => ?_)
  cases h
  refine gj_iload d_La_law_594 rfl ?_
  refine gj_icmp_eq (tgt := 601) d_La_law_596 (by decide) (fun _ => ?_) (fun h => absurd rfl h)
  refine gj_iload d_La_law_601 rfl ?_
  refine gj_if_ne (tgt := 618) d_La_law_603 (by decide) (fun _ => ?_) (fun hk0 => ?_)
  · refine gj_goto (tgt := 1189) d_La_law_618 (by decide) ?_
    refine gj_less (lc' := [(0, .ref (0)), (1, .ref (1)), (2, .ref (70)), (3, .ref (91)), (4, .int (nI i))]) ⟨rfl, rfl, rfl, rfl, rfl, trivial⟩ ?_
    exact HI C2 _ yI y0
  obtain ⟨o, y91, yb⟩ := yo hk0
  refine gj_aload_n d_La_law_606 rfl ?_
  refine gj_kc (v := 0) d_La_law_607 (by decide) ?_
  refine gj_lald d_La_law_608 y91 rfl (vp_in_nI (n := 0) (by omega) (by decide)) ?_
  refine gj_topl (y := b.toInt64) yb ?_
  refine gj_iload d_La_law_609 rfl ?_
  refine gj_i2l d_La_law_611 ?_
  refine gj_lcmp d_La_law_612 ?_
  refine gj_if_eq (tgt := 618) d_La_law_613 (by decide) (fun _ => ?_) (fun h => absurd ((lg_cmp_eq _ _).mpr rfl) h)
  refine gj_goto (tgt := 1189) d_La_law_618 (by decide) ?_
  refine gj_less (lc' := [(0, .ref (0)), (1, .ref (1)), (2, .ref (70)), (3, .ref (91)), (4, .int (nI i))]) ⟨rfl, rfl, rfl, rfl, rfl, trivial⟩ ?_
  exact HI C2 _ yI y0
set_option maxHeartbeats 2000000 in
theorem l_book {d K N k w n i L : Nat} {C : Nat → va_E} {xs : Nat → Int32} {I : (Nat → va_E) → Nat → Prop} {Q : gj_R → Prop} (h0 : C 0 = .inl (999, L, .inl xs)) (hi : i + 5 ≤ L) (hL : L ≤ 2560) (hk : k + 1 ≤ K) (hw : w + 6 ≤ N) (HS : lw_st I md_La_book md_Mo_book [.int (xs (i + 1)), .int (xs (i + 2))] d C n) (HI : ∀ C2 n2, I C2 n2 → C2 0 = C 0 → gj_G md_La_law (d + 1) K N (k + 1) (w + 6) 1189 [(0, .ref (0)), (1, .ref (1)), (2, .ref (70)), (3, .ref (91)), (4, .int (nI i))] [] n2 C2 Q) : gj_G md_La_law (d + 1) K N k w 621 [(0, .ref (0)), (1, .ref (1)), (2, .ref (70)), (3, .ref (91)), (4, .int (nI i))] [] n C Q := by
  obtain ⟨kc, b, n1, R1, R2, HC, HM, HE⟩ := HS
  refine gj_aload_n d_La_law_621 rfl ?_
  refine gj_aload_n d_La_law_622 rfl ?_
  refine gj_iload d_La_law_623 rfl ?_
  refine gj_kc (v := 1) d_La_law_625 (by decide) ?_
  refine gj_iadd d_La_law_626 ?_
  refine gj_top (y := nI (i + 1)) (nI_add i 1) ?_
  refine gj_sld d_La_law_627 h0 (vp_in_nI (by omega) (by omega)) ?_
  refine gj_top (y := xs (i + 1)) (congrArg xs (nI_clamp (by omega))) ?_
  refine gj_aload_n d_La_law_628 rfl ?_
  refine gj_iload d_La_law_629 rfl ?_
  refine gj_kc (v := 2) d_La_law_631 (by decide) ?_
  refine gj_iadd d_La_law_632 ?_
  refine gj_top (y := nI (i + 2)) (nI_add i 2) ?_
  refine gj_sld d_La_law_633 h0 (vp_in_nI (by omega) (by omega)) ?_
  refine gj_top (y := xs (i + 2)) (congrArg xs (nI_clamp (by omega))) ?_
  refine gj_aload_n d_La_law_634 rfl ?_
  refine gj_callS (as := [.ref 1, .int (xs (i + 1)), .int (xs (i + 2)), .ref 91]) (rest := []) (K1 := 1) (N1 := 6) d_La_law_635 mo_La_book gw_506 gw_507 gw_19 pl_La_book (Nat.le_of_ble_eq_true rfl) (Nat.le_of_ble_eq_true rfl) hk hw HC (fun E n2 C2 _ h => by obtain ⟨hv, -⟩ := h; exact nomatch hv) (fun v1 n2 C1 _ h => ?_)
  obtain ⟨hv, hn, hR1⟩ := h
  dsimp only [gj_iv] at hv hn
  cases hv
  subst hn
  obtain ⟨z0, ⟨fs2, z70⟩, HM1⟩ := HM C1 hR1
  have h01 := z0.trans h0
  refine gj_istore d_La_law_638 (by decide) ?_
  refine gj_aload_n d_La_law_640 rfl ?_
  refine gj_aload_n d_La_law_641 rfl ?_
  refine gj_iload d_La_law_642 rfl ?_
  refine gj_kc (v := 1) d_La_law_644 (by decide) ?_
  refine gj_iadd d_La_law_645 ?_
  refine gj_top (y := nI (i + 1)) (nI_add i 1) ?_
  refine gj_sld d_La_law_646 h01 (vp_in_nI (by omega) (by omega)) ?_
  refine gj_top (y := xs (i + 1)) (congrArg xs (nI_clamp (by omega))) ?_
  refine gj_aload_n d_La_law_647 rfl ?_
  refine gj_iload d_La_law_648 rfl ?_
  refine gj_kc (v := 2) d_La_law_650 (by decide) ?_
  refine gj_iadd d_La_law_651 ?_
  refine gj_top (y := nI (i + 2)) (nI_add i 2) ?_
  refine gj_sld d_La_law_652 h01 (vp_in_nI (by omega) (by omega)) ?_
  refine gj_top (y := xs (i + 2)) (congrArg xs (nI_clamp (by omega))) ?_
  refine gj_callV (as := [.int (xs (i + 1)), .int (xs (i + 2))]) (rest := []) (K1 := 0) (N1 := 0) d_La_law_653 mo_Mo_book gw_764 gw_765 gw_766 z70 rfl pl_Mo_book (Nat.le_of_ble_eq_true rfl) (Nat.le_of_ble_eq_true rfl) (by omega) (by omega) HM1 (fun E n2 C2 _ h => by obtain ⟨hv, -⟩ := h; exact nomatch hv) (fun v1 n2 C2 _ h => ?_)
  obtain ⟨hv, hn, hR2⟩ := h
  dsimp only [gj_iv, gj_lv2] at hv hn
  cases hv
  subst hn
  obtain ⟨y0, yI, ⟨fs3, y70⟩, yo⟩ := HE C2 hR2
  refine gj_istore d_La_law_656 (by decide) ?_
  refine gj_aload_n d_La_law_658 rfl ?_
  refine gj_callV (as := []) (rest := []) (K1 := 0) (N1 := 0) d_La_law_659 mo_Mo_thrown gw_679 gw_680 gw_681 y70 rfl pl_Mo_thrown (Nat.le_of_ble_eq_true rfl) (Nat.le_of_ble_eq_true rfl) (by omega) (by omega) (c_Mo_thrown0 y70) (fun E n2 C2 _ h => by cases h) (fun v1 n2 C3 _ h => ?_)
  cases h
  refine gj_iload d_La_law_662 rfl ?_
  refine gj_icmp_eq (tgt := 669) d_La_law_664 (by decide) (fun _ => ?_) (fun h => absurd rfl h)
  refine gj_iload d_La_law_669 rfl ?_
  refine gj_if_ne (tgt := 686) d_La_law_671 (by decide) (fun _ => ?_) (fun hk0 => ?_)
  · refine gj_goto (tgt := 1189) d_La_law_686 (by decide) ?_
    refine gj_less (lc' := [(0, .ref (0)), (1, .ref (1)), (2, .ref (70)), (3, .ref (91)), (4, .int (nI i))]) ⟨rfl, rfl, rfl, rfl, rfl, trivial⟩ ?_
    exact HI C2 _ yI y0
  obtain ⟨o, y91, yb⟩ := yo hk0
  refine gj_aload_n d_La_law_674 rfl ?_
  refine gj_kc (v := 0) d_La_law_675 (by decide) ?_
  refine gj_lald d_La_law_676 y91 rfl (vp_in_nI (n := 0) (by omega) (by decide)) ?_
  refine gj_topl (y := b.toInt64) yb ?_
  refine gj_iload d_La_law_677 rfl ?_
  refine gj_i2l d_La_law_679 ?_
  refine gj_lcmp d_La_law_680 ?_
  refine gj_if_eq (tgt := 686) d_La_law_681 (by decide) (fun _ => ?_) (fun h => absurd ((lg_cmp_eq _ _).mpr rfl) h)
  refine gj_goto (tgt := 1189) d_La_law_686 (by decide) ?_
  refine gj_less (lc' := [(0, .ref (0)), (1, .ref (1)), (2, .ref (70)), (3, .ref (91)), (4, .int (nI i))]) ⟨rfl, rfl, rfl, rfl, rfl, trivial⟩ ?_
  exact HI C2 _ yI y0
set_option maxHeartbeats 2000000 in
theorem l_combine {d K N k w n i L : Nat} {C : Nat → va_E} {xs : Nat → Int32} {I : (Nat → va_E) → Nat → Prop} {Q : gj_R → Prop} (h0 : C 0 = .inl (999, L, .inl xs)) (hi : i + 5 ≤ L) (hL : L ≤ 2560) (hk : k + 1 ≤ K) (hw : w + 6 ≤ N) (HS : lw_st I md_La_combine md_Mo_combine [.int (xs (i + 1)), .int (xs (i + 2))] d C n) (HI : ∀ C2 n2, I C2 n2 → C2 0 = C 0 → gj_G md_La_law (d + 1) K N (k + 1) (w + 6) 1189 [(0, .ref (0)), (1, .ref (1)), (2, .ref (70)), (3, .ref (91)), (4, .int (nI i))] [] n2 C2 Q) : gj_G md_La_law (d + 1) K N k w 689 [(0, .ref (0)), (1, .ref (1)), (2, .ref (70)), (3, .ref (91)), (4, .int (nI i))] [] n C Q := by
  obtain ⟨kc, b, n1, R1, R2, HC, HM, HE⟩ := HS
  refine gj_aload_n d_La_law_689 rfl ?_
  refine gj_aload_n d_La_law_690 rfl ?_
  refine gj_iload d_La_law_691 rfl ?_
  refine gj_kc (v := 1) d_La_law_693 (by decide) ?_
  refine gj_iadd d_La_law_694 ?_
  refine gj_top (y := nI (i + 1)) (nI_add i 1) ?_
  refine gj_sld d_La_law_695 h0 (vp_in_nI (by omega) (by omega)) ?_
  refine gj_top (y := xs (i + 1)) (congrArg xs (nI_clamp (by omega))) ?_
  refine gj_aload_n d_La_law_696 rfl ?_
  refine gj_iload d_La_law_697 rfl ?_
  refine gj_kc (v := 2) d_La_law_699 (by decide) ?_
  refine gj_iadd d_La_law_700 ?_
  refine gj_top (y := nI (i + 2)) (nI_add i 2) ?_
  refine gj_sld d_La_law_701 h0 (vp_in_nI (by omega) (by omega)) ?_
  refine gj_top (y := xs (i + 2)) (congrArg xs (nI_clamp (by omega))) ?_
  refine gj_aload_n d_La_law_702 rfl ?_
  refine gj_callS (as := [.ref 1, .int (xs (i + 1)), .int (xs (i + 2)), .ref 91]) (rest := []) (K1 := 1) (N1 := 6) d_La_law_703 mo_La_combine gw_531 gw_532 gw_19 pl_La_combine (Nat.le_of_ble_eq_true rfl) (Nat.le_of_ble_eq_true rfl) hk hw HC (fun E n2 C2 _ h => by obtain ⟨hv, -⟩ := h; exact nomatch hv) (fun v1 n2 C1 _ h => ?_)
  obtain ⟨hv, hn, hR1⟩ := h
  dsimp only [gj_iv] at hv hn
  cases hv
  subst hn
  obtain ⟨z0, ⟨fs2, z70⟩, HM1⟩ := HM C1 hR1
  have h01 := z0.trans h0
  refine gj_istore d_La_law_706 (by decide) ?_
  refine gj_aload_n d_La_law_708 rfl ?_
  refine gj_aload_n d_La_law_709 rfl ?_
  refine gj_iload d_La_law_710 rfl ?_
  refine gj_kc (v := 1) d_La_law_712 (by decide) ?_
  refine gj_iadd d_La_law_713 ?_
  refine gj_top (y := nI (i + 1)) (nI_add i 1) ?_
  refine gj_sld d_La_law_714 h01 (vp_in_nI (by omega) (by omega)) ?_
  refine gj_top (y := xs (i + 1)) (congrArg xs (nI_clamp (by omega))) ?_
  refine gj_aload_n d_La_law_715 rfl ?_
  refine gj_iload d_La_law_716 rfl ?_
  refine gj_kc (v := 2) d_La_law_718 (by decide) ?_
  refine gj_iadd d_La_law_719 ?_
  refine gj_top (y := nI (i + 2)) (nI_add i 2) ?_
  refine gj_sld d_La_law_720 h01 (vp_in_nI (by omega) (by omega)) ?_
  refine gj_top (y := xs (i + 2)) (congrArg xs (nI_clamp (by omega))) ?_
  refine gj_callV (as := [.int (xs (i + 1)), .int (xs (i + 2))]) (rest := []) (K1 := 0) (N1 := 0) d_La_law_721 mo_Mo_combine gw_768 gw_769 gw_770 z70 rfl pl_Mo_combine (Nat.le_of_ble_eq_true rfl) (Nat.le_of_ble_eq_true rfl) (by omega) (by omega) HM1 (fun E n2 C2 _ h => by obtain ⟨hv, -⟩ := h; exact nomatch hv) (fun v1 n2 C2 _ h => ?_)
  obtain ⟨hv, hn, hR2⟩ := h
  dsimp only [gj_iv, gj_lv2] at hv hn
  cases hv
  subst hn
  obtain ⟨y0, yI, ⟨fs3, y70⟩, yo⟩ := HE C2 hR2
  refine gj_istore d_La_law_724 (by decide) ?_
  refine gj_aload_n d_La_law_726 rfl ?_
  refine gj_callV (as := []) (rest := []) (K1 := 0) (N1 := 0) d_La_law_727 mo_Mo_thrown gw_679 gw_680 gw_681 y70 rfl pl_Mo_thrown (Nat.le_of_ble_eq_true rfl) (Nat.le_of_ble_eq_true rfl) (by omega) (by omega) (c_Mo_thrown0 y70) (fun E n2 C2 _ h => by cases h) (fun v1 n2 C3 _ h => ?_)
  cases h
  refine gj_iload d_La_law_730 rfl ?_
  refine gj_icmp_eq (tgt := 737) d_La_law_732 (by decide) (fun _ => ?_) (fun h => absurd rfl h)
  refine gj_iload d_La_law_737 rfl ?_
  refine gj_if_ne (tgt := 754) d_La_law_739 (by decide) (fun _ => ?_) (fun hk0 => ?_)
  · refine gj_goto (tgt := 1189) d_La_law_754 (by decide) ?_
    refine gj_less (lc' := [(0, .ref (0)), (1, .ref (1)), (2, .ref (70)), (3, .ref (91)), (4, .int (nI i))]) ⟨rfl, rfl, rfl, rfl, rfl, trivial⟩ ?_
    exact HI C2 _ yI y0
  obtain ⟨o, y91, yb⟩ := yo hk0
  refine gj_aload_n d_La_law_742 rfl ?_
  refine gj_kc (v := 0) d_La_law_743 (by decide) ?_
  refine gj_lald d_La_law_744 y91 rfl (vp_in_nI (n := 0) (by omega) (by decide)) ?_
  refine gj_topl (y := b.toInt64) yb ?_
  refine gj_iload d_La_law_745 rfl ?_
  refine gj_i2l d_La_law_747 ?_
  refine gj_lcmp d_La_law_748 ?_
  refine gj_if_eq (tgt := 754) d_La_law_749 (by decide) (fun _ => ?_) (fun h => absurd ((lg_cmp_eq _ _).mpr rfl) h)
  refine gj_goto (tgt := 1189) d_La_law_754 (by decide) ?_
  refine gj_less (lc' := [(0, .ref (0)), (1, .ref (1)), (2, .ref (70)), (3, .ref (91)), (4, .int (nI i))]) ⟨rfl, rfl, rfl, rfl, rfl, trivial⟩ ?_
  exact HI C2 _ yI y0
set_option maxHeartbeats 2000000 in
theorem l_invoice {d K N k w n i L : Nat} {C : Nat → va_E} {xs : Nat → Int32} {I : (Nat → va_E) → Nat → Prop} {Q : gj_R → Prop} (h0 : C 0 = .inl (999, L, .inl xs)) (hi : i + 5 ≤ L) (hL : L ≤ 2560) (hk : k + 1 ≤ K) (hw : w + 6 ≤ N) (HS : lw_st I md_La_invoice md_Mo_invoice [.int (xs (i + 1)), .int (xs (i + 2))] d C n) (HI : ∀ C2 n2, I C2 n2 → C2 0 = C 0 → gj_G md_La_law (d + 1) K N (k + 1) (w + 6) 1189 [(0, .ref (0)), (1, .ref (1)), (2, .ref (70)), (3, .ref (91)), (4, .int (nI i))] [] n2 C2 Q) : gj_G md_La_law (d + 1) K N k w 757 [(0, .ref (0)), (1, .ref (1)), (2, .ref (70)), (3, .ref (91)), (4, .int (nI i))] [] n C Q := by
  obtain ⟨kc, b, n1, R1, R2, HC, HM, HE⟩ := HS
  refine gj_aload_n d_La_law_757 rfl ?_
  refine gj_aload_n d_La_law_758 rfl ?_
  refine gj_iload d_La_law_759 rfl ?_
  refine gj_kc (v := 1) d_La_law_761 (by decide) ?_
  refine gj_iadd d_La_law_762 ?_
  refine gj_top (y := nI (i + 1)) (nI_add i 1) ?_
  refine gj_sld d_La_law_763 h0 (vp_in_nI (by omega) (by omega)) ?_
  refine gj_top (y := xs (i + 1)) (congrArg xs (nI_clamp (by omega))) ?_
  refine gj_aload_n d_La_law_764 rfl ?_
  refine gj_iload d_La_law_765 rfl ?_
  refine gj_kc (v := 2) d_La_law_767 (by decide) ?_
  refine gj_iadd d_La_law_768 ?_
  refine gj_top (y := nI (i + 2)) (nI_add i 2) ?_
  refine gj_sld d_La_law_769 h0 (vp_in_nI (by omega) (by omega)) ?_
  refine gj_top (y := xs (i + 2)) (congrArg xs (nI_clamp (by omega))) ?_
  refine gj_aload_n d_La_law_770 rfl ?_
  refine gj_callS (as := [.ref 1, .int (xs (i + 1)), .int (xs (i + 2)), .ref 91]) (rest := []) (K1 := 1) (N1 := 6) d_La_law_771 mo_La_invoice gw_542 gw_543 gw_19 pl_La_invoice (Nat.le_of_ble_eq_true rfl) (Nat.le_of_ble_eq_true rfl) hk hw HC (fun E n2 C2 _ h => by obtain ⟨hv, -⟩ := h; exact nomatch hv) (fun v1 n2 C1 _ h => ?_)
  obtain ⟨hv, hn, hR1⟩ := h
  dsimp only [gj_iv] at hv hn
  cases hv
  subst hn
  obtain ⟨z0, ⟨fs2, z70⟩, HM1⟩ := HM C1 hR1
  have h01 := z0.trans h0
  refine gj_istore d_La_law_774 (by decide) ?_
  refine gj_aload_n d_La_law_776 rfl ?_
  refine gj_aload_n d_La_law_777 rfl ?_
  refine gj_iload d_La_law_778 rfl ?_
  refine gj_kc (v := 1) d_La_law_780 (by decide) ?_
  refine gj_iadd d_La_law_781 ?_
  refine gj_top (y := nI (i + 1)) (nI_add i 1) ?_
  refine gj_sld d_La_law_782 h01 (vp_in_nI (by omega) (by omega)) ?_
  refine gj_top (y := xs (i + 1)) (congrArg xs (nI_clamp (by omega))) ?_
  refine gj_aload_n d_La_law_783 rfl ?_
  refine gj_iload d_La_law_784 rfl ?_
  refine gj_kc (v := 2) d_La_law_786 (by decide) ?_
  refine gj_iadd d_La_law_787 ?_
  refine gj_top (y := nI (i + 2)) (nI_add i 2) ?_
  refine gj_sld d_La_law_788 h01 (vp_in_nI (by omega) (by omega)) ?_
  refine gj_top (y := xs (i + 2)) (congrArg xs (nI_clamp (by omega))) ?_
  refine gj_callV (as := [.int (xs (i + 1)), .int (xs (i + 2))]) (rest := []) (K1 := 0) (N1 := 0) d_La_law_789 mo_Mo_invoice gw_772 gw_773 gw_774 z70 rfl pl_Mo_invoice (Nat.le_of_ble_eq_true rfl) (Nat.le_of_ble_eq_true rfl) (by omega) (by omega) HM1 (fun E n2 C2 _ h => by obtain ⟨hv, -⟩ := h; exact nomatch hv) (fun v1 n2 C2 _ h => ?_)
  obtain ⟨hv, hn, hR2⟩ := h
  dsimp only [gj_iv, gj_lv2] at hv hn
  cases hv
  subst hn
  obtain ⟨y0, yI, ⟨fs3, y70⟩, yo⟩ := HE C2 hR2
  refine gj_istore d_La_law_792 (by decide) ?_
  refine gj_aload_n d_La_law_794 rfl ?_
  refine gj_callV (as := []) (rest := []) (K1 := 0) (N1 := 0) d_La_law_795 mo_Mo_thrown gw_679 gw_680 gw_681 y70 rfl pl_Mo_thrown (Nat.le_of_ble_eq_true rfl) (Nat.le_of_ble_eq_true rfl) (by omega) (by omega) (c_Mo_thrown0 y70) (fun E n2 C2 _ h => by cases h) (fun v1 n2 C3 _ h => ?_)
  cases h
  refine gj_iload d_La_law_798 rfl ?_
  refine gj_icmp_eq (tgt := 805) d_La_law_800 (by decide) (fun _ => ?_) (fun h => absurd rfl h)
  refine gj_iload d_La_law_805 rfl ?_
  refine gj_if_ne (tgt := 822) d_La_law_807 (by decide) (fun _ => ?_) (fun hk0 => ?_)
  · refine gj_goto (tgt := 1189) d_La_law_822 (by decide) ?_
    refine gj_less (lc' := [(0, .ref (0)), (1, .ref (1)), (2, .ref (70)), (3, .ref (91)), (4, .int (nI i))]) ⟨rfl, rfl, rfl, rfl, rfl, trivial⟩ ?_
    exact HI C2 _ yI y0
  obtain ⟨o, y91, yb⟩ := yo hk0
  refine gj_aload_n d_La_law_810 rfl ?_
  refine gj_kc (v := 0) d_La_law_811 (by decide) ?_
  refine gj_lald d_La_law_812 y91 rfl (vp_in_nI (n := 0) (by omega) (by decide)) ?_
  refine gj_topl (y := b.toInt64) yb ?_
  refine gj_iload d_La_law_813 rfl ?_
  refine gj_i2l d_La_law_815 ?_
  refine gj_lcmp d_La_law_816 ?_
  refine gj_if_eq (tgt := 822) d_La_law_817 (by decide) (fun _ => ?_) (fun h => absurd ((lg_cmp_eq _ _).mpr rfl) h)
  refine gj_goto (tgt := 1189) d_La_law_822 (by decide) ?_
  refine gj_less (lc' := [(0, .ref (0)), (1, .ref (1)), (2, .ref (70)), (3, .ref (91)), (4, .int (nI i))]) ⟨rfl, rfl, rfl, rfl, rfl, trivial⟩ ?_
  exact HI C2 _ yI y0
set_option maxHeartbeats 2000000 in
theorem l_refund {d K N k w n i L : Nat} {C : Nat → va_E} {xs : Nat → Int32} {I : (Nat → va_E) → Nat → Prop} {Q : gj_R → Prop} (h0 : C 0 = .inl (999, L, .inl xs)) (hi : i + 5 ≤ L) (hL : L ≤ 2560) (hk : k + 1 ≤ K) (hw : w + 6 ≤ N) (HS : lw_st I md_La_refund md_Mo_refund [.int (xs (i + 1)), .int (xs (i + 2))] d C n) (HI : ∀ C2 n2, I C2 n2 → C2 0 = C 0 → gj_G md_La_law (d + 1) K N (k + 1) (w + 6) 1189 [(0, .ref (0)), (1, .ref (1)), (2, .ref (70)), (3, .ref (91)), (4, .int (nI i))] [] n2 C2 Q) : gj_G md_La_law (d + 1) K N k w 825 [(0, .ref (0)), (1, .ref (1)), (2, .ref (70)), (3, .ref (91)), (4, .int (nI i))] [] n C Q := by
  obtain ⟨kc, b, n1, R1, R2, HC, HM, HE⟩ := HS
  refine gj_aload_n d_La_law_825 rfl ?_
  refine gj_aload_n d_La_law_826 rfl ?_
  refine gj_iload d_La_law_827 rfl ?_
  refine gj_kc (v := 1) d_La_law_829 (by decide) ?_
  refine gj_iadd d_La_law_830 ?_
  refine gj_top (y := nI (i + 1)) (nI_add i 1) ?_
  refine gj_sld d_La_law_831 h0 (vp_in_nI (by omega) (by omega)) ?_
  refine gj_top (y := xs (i + 1)) (congrArg xs (nI_clamp (by omega))) ?_
  refine gj_aload_n d_La_law_832 rfl ?_
  refine gj_iload d_La_law_833 rfl ?_
  refine gj_kc (v := 2) d_La_law_835 (by decide) ?_
  refine gj_iadd d_La_law_836 ?_
  refine gj_top (y := nI (i + 2)) (nI_add i 2) ?_
  refine gj_sld d_La_law_837 h0 (vp_in_nI (by omega) (by omega)) ?_
  refine gj_top (y := xs (i + 2)) (congrArg xs (nI_clamp (by omega))) ?_
  refine gj_aload_n d_La_law_838 rfl ?_
  refine gj_callS (as := [.ref 1, .int (xs (i + 1)), .int (xs (i + 2)), .ref 91]) (rest := []) (K1 := 1) (N1 := 6) d_La_law_839 mo_La_refund gw_551 gw_552 gw_19 pl_La_refund (Nat.le_of_ble_eq_true rfl) (Nat.le_of_ble_eq_true rfl) hk hw HC (fun E n2 C2 _ h => by obtain ⟨hv, -⟩ := h; exact nomatch hv) (fun v1 n2 C1 _ h => ?_)
  obtain ⟨hv, hn, hR1⟩ := h
  dsimp only [gj_iv] at hv hn
  cases hv
  subst hn
  obtain ⟨z0, ⟨fs2, z70⟩, HM1⟩ := HM C1 hR1
  have h01 := z0.trans h0
  refine gj_istore d_La_law_842 (by decide) ?_
  refine gj_aload_n d_La_law_844 rfl ?_
  refine gj_aload_n d_La_law_845 rfl ?_
  refine gj_iload d_La_law_846 rfl ?_
  refine gj_kc (v := 1) d_La_law_848 (by decide) ?_
  refine gj_iadd d_La_law_849 ?_
  refine gj_top (y := nI (i + 1)) (nI_add i 1) ?_
  refine gj_sld d_La_law_850 h01 (vp_in_nI (by omega) (by omega)) ?_
  refine gj_top (y := xs (i + 1)) (congrArg xs (nI_clamp (by omega))) ?_
  refine gj_aload_n d_La_law_851 rfl ?_
  refine gj_iload d_La_law_852 rfl ?_
  refine gj_kc (v := 2) d_La_law_854 (by decide) ?_
  refine gj_iadd d_La_law_855 ?_
  refine gj_top (y := nI (i + 2)) (nI_add i 2) ?_
  refine gj_sld d_La_law_856 h01 (vp_in_nI (by omega) (by omega)) ?_
  refine gj_top (y := xs (i + 2)) (congrArg xs (nI_clamp (by omega))) ?_
  refine gj_callV (as := [.int (xs (i + 1)), .int (xs (i + 2))]) (rest := []) (K1 := 0) (N1 := 0) d_La_law_857 mo_Mo_refund gw_777 gw_778 gw_779 z70 rfl pl_Mo_refund (Nat.le_of_ble_eq_true rfl) (Nat.le_of_ble_eq_true rfl) (by omega) (by omega) HM1 (fun E n2 C2 _ h => by obtain ⟨hv, -⟩ := h; exact nomatch hv) (fun v1 n2 C2 _ h => ?_)
  obtain ⟨hv, hn, hR2⟩ := h
  dsimp only [gj_iv, gj_lv2] at hv hn
  cases hv
  subst hn
  obtain ⟨y0, yI, ⟨fs3, y70⟩, yo⟩ := HE C2 hR2
  refine gj_istore d_La_law_860 (by decide) ?_
  refine gj_aload_n d_La_law_862 rfl ?_
  refine gj_callV (as := []) (rest := []) (K1 := 0) (N1 := 0) d_La_law_863 mo_Mo_thrown gw_679 gw_680 gw_681 y70 rfl pl_Mo_thrown (Nat.le_of_ble_eq_true rfl) (Nat.le_of_ble_eq_true rfl) (by omega) (by omega) (c_Mo_thrown0 y70) (fun E n2 C2 _ h => by cases h) (fun v1 n2 C3 _ h => ?_)
  cases h
  refine gj_iload d_La_law_866 rfl ?_
  refine gj_icmp_eq (tgt := 873) d_La_law_868 (by decide) (fun _ => ?_) (fun h => absurd rfl h)
  refine gj_iload d_La_law_873 rfl ?_
  refine gj_if_ne (tgt := 890) d_La_law_875 (by decide) (fun _ => ?_) (fun hk0 => ?_)
  · refine gj_goto (tgt := 1189) d_La_law_890 (by decide) ?_
    refine gj_less (lc' := [(0, .ref (0)), (1, .ref (1)), (2, .ref (70)), (3, .ref (91)), (4, .int (nI i))]) ⟨rfl, rfl, rfl, rfl, rfl, trivial⟩ ?_
    exact HI C2 _ yI y0
  obtain ⟨o, y91, yb⟩ := yo hk0
  refine gj_aload_n d_La_law_878 rfl ?_
  refine gj_kc (v := 0) d_La_law_879 (by decide) ?_
  refine gj_lald d_La_law_880 y91 rfl (vp_in_nI (n := 0) (by omega) (by decide)) ?_
  refine gj_topl (y := b.toInt64) yb ?_
  refine gj_iload d_La_law_881 rfl ?_
  refine gj_i2l d_La_law_883 ?_
  refine gj_lcmp d_La_law_884 ?_
  refine gj_if_eq (tgt := 890) d_La_law_885 (by decide) (fun _ => ?_) (fun h => absurd ((lg_cmp_eq _ _).mpr rfl) h)
  refine gj_goto (tgt := 1189) d_La_law_890 (by decide) ?_
  refine gj_less (lc' := [(0, .ref (0)), (1, .ref (1)), (2, .ref (70)), (3, .ref (91)), (4, .int (nI i))]) ⟨rfl, rfl, rfl, rfl, rfl, trivial⟩ ?_
  exact HI C2 _ yI y0
set_option maxHeartbeats 2000000 in
theorem l_differ {d K N k w n i L : Nat} {C : Nat → va_E} {xs : Nat → Int32} {I : (Nat → va_E) → Nat → Prop} {Q : gj_R → Prop} (h0 : C 0 = .inl (999, L, .inl xs)) (hi : i + 5 ≤ L) (hL : L ≤ 2560) (hk : k + 1 ≤ K) (hw : w + 6 ≤ N) (HS : lw_st I md_La_differ md_Mo_differ [.int (xs (i + 1))] d C n) (HI : ∀ C2 n2, I C2 n2 → C2 0 = C 0 → gj_G md_La_law (d + 1) K N (k + 1) (w + 6) 1189 [(0, .ref (0)), (1, .ref (1)), (2, .ref (70)), (3, .ref (91)), (4, .int (nI i))] [] n2 C2 Q) : gj_G md_La_law (d + 1) K N k w 893 [(0, .ref (0)), (1, .ref (1)), (2, .ref (70)), (3, .ref (91)), (4, .int (nI i))] [] n C Q := by
  obtain ⟨kc, b, n1, R1, R2, HC, HM, HE⟩ := HS
  refine gj_aload_n d_La_law_893 rfl ?_
  refine gj_aload_n d_La_law_894 rfl ?_
  refine gj_iload d_La_law_895 rfl ?_
  refine gj_kc (v := 1) d_La_law_897 (by decide) ?_
  refine gj_iadd d_La_law_898 ?_
  refine gj_top (y := nI (i + 1)) (nI_add i 1) ?_
  refine gj_sld d_La_law_899 h0 (vp_in_nI (by omega) (by omega)) ?_
  refine gj_top (y := xs (i + 1)) (congrArg xs (nI_clamp (by omega))) ?_
  refine gj_aload_n d_La_law_900 rfl ?_
  refine gj_callS (as := [.ref 1, .int (xs (i + 1)), .ref 91]) (rest := []) (K1 := 1) (N1 := 6) d_La_law_901 mo_La_differ gw_559 gw_560 gw_19 pl_La_differ (Nat.le_of_ble_eq_true rfl) (Nat.le_of_ble_eq_true rfl) hk hw HC (fun E n2 C2 _ h => by obtain ⟨hv, -⟩ := h; exact nomatch hv) (fun v1 n2 C1 _ h => ?_)
  obtain ⟨hv, hn, hR1⟩ := h
  dsimp only [gj_iv] at hv hn
  cases hv
  subst hn
  obtain ⟨z0, ⟨fs2, z70⟩, HM1⟩ := HM C1 hR1
  have h01 := z0.trans h0
  refine gj_istore d_La_law_904 (by decide) ?_
  refine gj_aload_n d_La_law_906 rfl ?_
  refine gj_aload_n d_La_law_907 rfl ?_
  refine gj_iload d_La_law_908 rfl ?_
  refine gj_kc (v := 1) d_La_law_910 (by decide) ?_
  refine gj_iadd d_La_law_911 ?_
  refine gj_top (y := nI (i + 1)) (nI_add i 1) ?_
  refine gj_sld d_La_law_912 h01 (vp_in_nI (by omega) (by omega)) ?_
  refine gj_top (y := xs (i + 1)) (congrArg xs (nI_clamp (by omega))) ?_
  refine gj_callV (as := [.int (xs (i + 1))]) (rest := []) (K1 := 0) (N1 := 0) d_La_law_913 mo_Mo_differ gw_781 gw_782 gw_783 z70 rfl pl_Mo_differ (Nat.le_of_ble_eq_true rfl) (Nat.le_of_ble_eq_true rfl) (by omega) (by omega) HM1 (fun E n2 C2 _ h => by obtain ⟨hv, -⟩ := h; exact nomatch hv) (fun v1 n2 C2 _ h => ?_)
  obtain ⟨hv, hn, hR2⟩ := h
  dsimp only [gj_iv, gj_lv2] at hv hn
  cases hv
  subst hn
  obtain ⟨y0, yI, ⟨fs3, y70⟩, yo⟩ := HE C2 hR2
  refine gj_istore d_La_law_916 (by decide) ?_
  refine gj_aload_n d_La_law_918 rfl ?_
  refine gj_callV (as := []) (rest := []) (K1 := 0) (N1 := 0) d_La_law_919 mo_Mo_thrown gw_679 gw_680 gw_681 y70 rfl pl_Mo_thrown (Nat.le_of_ble_eq_true rfl) (Nat.le_of_ble_eq_true rfl) (by omega) (by omega) (c_Mo_thrown0 y70) (fun E n2 C2 _ h => by cases h) (fun v1 n2 C3 _ h => ?_)
  cases h
  refine gj_iload d_La_law_922 rfl ?_
  refine gj_icmp_eq (tgt := 929) d_La_law_924 (by decide) (fun _ => ?_) (fun h => absurd rfl h)
  refine gj_iload d_La_law_929 rfl ?_
  refine gj_if_ne (tgt := 946) d_La_law_931 (by decide) (fun _ => ?_) (fun hk0 => ?_)
  · refine gj_goto (tgt := 1189) d_La_law_946 (by decide) ?_
    refine gj_less (lc' := [(0, .ref (0)), (1, .ref (1)), (2, .ref (70)), (3, .ref (91)), (4, .int (nI i))]) ⟨rfl, rfl, rfl, rfl, rfl, trivial⟩ ?_
    exact HI C2 _ yI y0
  obtain ⟨o, y91, yb⟩ := yo hk0
  refine gj_aload_n d_La_law_934 rfl ?_
  refine gj_kc (v := 0) d_La_law_935 (by decide) ?_
  refine gj_lald d_La_law_936 y91 rfl (vp_in_nI (n := 0) (by omega) (by decide)) ?_
  refine gj_topl (y := b.toInt64) yb ?_
  refine gj_iload d_La_law_937 rfl ?_
  refine gj_i2l d_La_law_939 ?_
  refine gj_lcmp d_La_law_940 ?_
  refine gj_if_eq (tgt := 946) d_La_law_941 (by decide) (fun _ => ?_) (fun h => absurd ((lg_cmp_eq _ _).mpr rfl) h)
  refine gj_goto (tgt := 1189) d_La_law_946 (by decide) ?_
  refine gj_less (lc' := [(0, .ref (0)), (1, .ref (1)), (2, .ref (70)), (3, .ref (91)), (4, .int (nI i))]) ⟨rfl, rfl, rfl, rfl, rfl, trivial⟩ ?_
  exact HI C2 _ yI y0
set_option maxHeartbeats 2000000 in
theorem l_currency {d K N k w n i L : Nat} {C : Nat → va_E} {xs : Nat → Int32} {I : (Nat → va_E) → Nat → Prop} {Q : gj_R → Prop} (h0 : C 0 = .inl (999, L, .inl xs)) (hi : i + 5 ≤ L) (hL : L ≤ 2560) (hk : k + 1 ≤ K) (hw : w + 6 ≤ N) (HS : lw_st I md_La_currency md_Mo_currency [.int (xs (i + 1)), .int (xs (i + 2)), .int (xs (i + 3))] d C n) (HI : ∀ C2 n2, I C2 n2 → C2 0 = C 0 → gj_G md_La_law (d + 1) K N (k + 1) (w + 6) 1189 [(0, .ref (0)), (1, .ref (1)), (2, .ref (70)), (3, .ref (91)), (4, .int (nI i))] [] n2 C2 Q) : gj_G md_La_law (d + 1) K N k w 949 [(0, .ref (0)), (1, .ref (1)), (2, .ref (70)), (3, .ref (91)), (4, .int (nI i))] [] n C Q := by
  obtain ⟨kc, b, n1, R1, R2, HC, HM, HE⟩ := HS
  refine gj_aload_n d_La_law_949 rfl ?_
  refine gj_aload_n d_La_law_950 rfl ?_
  refine gj_iload d_La_law_951 rfl ?_
  refine gj_kc (v := 1) d_La_law_953 (by decide) ?_
  refine gj_iadd d_La_law_954 ?_
  refine gj_top (y := nI (i + 1)) (nI_add i 1) ?_
  refine gj_sld d_La_law_955 h0 (vp_in_nI (by omega) (by omega)) ?_
  refine gj_top (y := xs (i + 1)) (congrArg xs (nI_clamp (by omega))) ?_
  refine gj_aload_n d_La_law_956 rfl ?_
  refine gj_iload d_La_law_957 rfl ?_
  refine gj_kc (v := 2) d_La_law_959 (by decide) ?_
  refine gj_iadd d_La_law_960 ?_
  refine gj_top (y := nI (i + 2)) (nI_add i 2) ?_
  refine gj_sld d_La_law_961 h0 (vp_in_nI (by omega) (by omega)) ?_
  refine gj_top (y := xs (i + 2)) (congrArg xs (nI_clamp (by omega))) ?_
  refine gj_aload_n d_La_law_962 rfl ?_
  refine gj_iload d_La_law_963 rfl ?_
  refine gj_kc (v := 3) d_La_law_965 (by decide) ?_
  refine gj_iadd d_La_law_966 ?_
  refine gj_top (y := nI (i + 3)) (nI_add i 3) ?_
  refine gj_sld d_La_law_967 h0 (vp_in_nI (by omega) (by omega)) ?_
  refine gj_top (y := xs (i + 3)) (congrArg xs (nI_clamp (by omega))) ?_
  refine gj_aload_n d_La_law_968 rfl ?_
  refine gj_callS (as := [.ref 1, .int (xs (i + 1)), .int (xs (i + 2)), .int (xs (i + 3)), .ref 91]) (rest := []) (K1 := 1) (N1 := 6) d_La_law_969 mo_La_currency gw_567 gw_568 gw_19 pl_La_currency (Nat.le_of_ble_eq_true rfl) (Nat.le_of_ble_eq_true rfl) hk hw HC (fun E n2 C2 _ h => by obtain ⟨hv, -⟩ := h; exact nomatch hv) (fun v1 n2 C1 _ h => ?_)
  obtain ⟨hv, hn, hR1⟩ := h
  dsimp only [gj_iv] at hv hn
  cases hv
  subst hn
  obtain ⟨z0, ⟨fs2, z70⟩, HM1⟩ := HM C1 hR1
  have h01 := z0.trans h0
  refine gj_istore d_La_law_972 (by decide) ?_
  refine gj_aload_n d_La_law_974 rfl ?_
  refine gj_aload_n d_La_law_975 rfl ?_
  refine gj_iload d_La_law_976 rfl ?_
  refine gj_kc (v := 1) d_La_law_978 (by decide) ?_
  refine gj_iadd d_La_law_979 ?_
  refine gj_top (y := nI (i + 1)) (nI_add i 1) ?_
  refine gj_sld d_La_law_980 h01 (vp_in_nI (by omega) (by omega)) ?_
  refine gj_top (y := xs (i + 1)) (congrArg xs (nI_clamp (by omega))) ?_
  refine gj_aload_n d_La_law_981 rfl ?_
  refine gj_iload d_La_law_982 rfl ?_
  refine gj_kc (v := 2) d_La_law_984 (by decide) ?_
  refine gj_iadd d_La_law_985 ?_
  refine gj_top (y := nI (i + 2)) (nI_add i 2) ?_
  refine gj_sld d_La_law_986 h01 (vp_in_nI (by omega) (by omega)) ?_
  refine gj_top (y := xs (i + 2)) (congrArg xs (nI_clamp (by omega))) ?_
  refine gj_aload_n d_La_law_987 rfl ?_
  refine gj_iload d_La_law_988 rfl ?_
  refine gj_kc (v := 3) d_La_law_990 (by decide) ?_
  refine gj_iadd d_La_law_991 ?_
  refine gj_top (y := nI (i + 3)) (nI_add i 3) ?_
  refine gj_sld d_La_law_992 h01 (vp_in_nI (by omega) (by omega)) ?_
  refine gj_top (y := xs (i + 3)) (congrArg xs (nI_clamp (by omega))) ?_
  refine gj_callV (as := [.int (xs (i + 1)), .int (xs (i + 2)), .int (xs (i + 3))]) (rest := []) (K1 := 0) (N1 := 0) d_La_law_993 mo_Mo_currency gw_785 gw_786 gw_787 z70 rfl pl_Mo_currency (Nat.le_of_ble_eq_true rfl) (Nat.le_of_ble_eq_true rfl) (by omega) (by omega) HM1 (fun E n2 C2 _ h => by obtain ⟨hv, -⟩ := h; exact nomatch hv) (fun v1 n2 C2 _ h => ?_)
  obtain ⟨hv, hn, hR2⟩ := h
  dsimp only [gj_iv, gj_lv2] at hv hn
  cases hv
  subst hn
  obtain ⟨y0, yI, ⟨fs3, y70⟩, yo⟩ := HE C2 hR2
  refine gj_istore d_La_law_996 (by decide) ?_
  refine gj_aload_n d_La_law_998 rfl ?_
  refine gj_callV (as := []) (rest := []) (K1 := 0) (N1 := 0) d_La_law_999 mo_Mo_thrown gw_679 gw_680 gw_681 y70 rfl pl_Mo_thrown (Nat.le_of_ble_eq_true rfl) (Nat.le_of_ble_eq_true rfl) (by omega) (by omega) (c_Mo_thrown0 y70) (fun E n2 C2 _ h => by cases h) (fun v1 n2 C3 _ h => ?_)
  cases h
  refine gj_iload d_La_law_1002 rfl ?_
  refine gj_icmp_eq (tgt := 1009) d_La_law_1004 (by decide) (fun _ => ?_) (fun h => absurd rfl h)
  refine gj_iload d_La_law_1009 rfl ?_
  refine gj_if_ne (tgt := 1026) d_La_law_1011 (by decide) (fun _ => ?_) (fun hk0 => ?_)
  · refine gj_goto (tgt := 1189) d_La_law_1026 (by decide) ?_
    refine gj_less (lc' := [(0, .ref (0)), (1, .ref (1)), (2, .ref (70)), (3, .ref (91)), (4, .int (nI i))]) ⟨rfl, rfl, rfl, rfl, rfl, trivial⟩ ?_
    exact HI C2 _ yI y0
  obtain ⟨o, y91, yb⟩ := yo hk0
  refine gj_aload_n d_La_law_1014 rfl ?_
  refine gj_kc (v := 0) d_La_law_1015 (by decide) ?_
  refine gj_lald d_La_law_1016 y91 rfl (vp_in_nI (n := 0) (by omega) (by decide)) ?_
  refine gj_topl (y := b.toInt64) yb ?_
  refine gj_iload d_La_law_1017 rfl ?_
  refine gj_i2l d_La_law_1019 ?_
  refine gj_lcmp d_La_law_1020 ?_
  refine gj_if_eq (tgt := 1026) d_La_law_1021 (by decide) (fun _ => ?_) (fun h => absurd ((lg_cmp_eq _ _).mpr rfl) h)
  refine gj_goto (tgt := 1189) d_La_law_1026 (by decide) ?_
  refine gj_less (lc' := [(0, .ref (0)), (1, .ref (1)), (2, .ref (70)), (3, .ref (91)), (4, .int (nI i))]) ⟨rfl, rfl, rfl, rfl, rfl, trivial⟩ ?_
  exact HI C2 _ yI y0
set_option maxHeartbeats 2000000 in
theorem l_converted {d K N k w n i L : Nat} {C : Nat → va_E} {xs : Nat → Int32} {I : (Nat → va_E) → Nat → Prop} {Q : gj_R → Prop} (h0 : C 0 = .inl (999, L, .inl xs)) (hi : i + 5 ≤ L) (hL : L ≤ 2560) (hk : k + 1 ≤ K) (hw : w + 6 ≤ N) (HS : lw_sl I md_La_converted md_Mo_converted [.int (xs (i + 1)), .int (xs (i + 2))] d C n) (HI : ∀ C2 n2, I C2 n2 → C2 0 = C 0 → gj_G md_La_law (d + 1) K N (k + 1) (w + 6) 1189 [(0, .ref (0)), (1, .ref (1)), (2, .ref (70)), (3, .ref (91)), (4, .int (nI i))] [] n2 C2 Q) : gj_G md_La_law (d + 1) K N k w 1029 [(0, .ref (0)), (1, .ref (1)), (2, .ref (70)), (3, .ref (91)), (4, .int (nI i))] [] n C Q := by
  obtain ⟨kc, b, n1, R1, R2, HC, HM, HE⟩ := HS
  refine gj_aload_n d_La_law_1029 rfl ?_
  refine gj_aload_n d_La_law_1030 rfl ?_
  refine gj_iload d_La_law_1031 rfl ?_
  refine gj_kc (v := 1) d_La_law_1033 (by decide) ?_
  refine gj_iadd d_La_law_1034 ?_
  refine gj_top (y := nI (i + 1)) (nI_add i 1) ?_
  refine gj_sld d_La_law_1035 h0 (vp_in_nI (by omega) (by omega)) ?_
  refine gj_top (y := xs (i + 1)) (congrArg xs (nI_clamp (by omega))) ?_
  refine gj_aload_n d_La_law_1036 rfl ?_
  refine gj_iload d_La_law_1037 rfl ?_
  refine gj_kc (v := 2) d_La_law_1039 (by decide) ?_
  refine gj_iadd d_La_law_1040 ?_
  refine gj_top (y := nI (i + 2)) (nI_add i 2) ?_
  refine gj_sld d_La_law_1041 h0 (vp_in_nI (by omega) (by omega)) ?_
  refine gj_top (y := xs (i + 2)) (congrArg xs (nI_clamp (by omega))) ?_
  refine gj_aload_n d_La_law_1042 rfl ?_
  refine gj_callS (as := [.ref 1, .int (xs (i + 1)), .int (xs (i + 2)), .ref 91]) (rest := []) (K1 := 1) (N1 := 6) d_La_law_1043 mo_La_converted gw_574 gw_575 gw_19 pl_La_converted (Nat.le_of_ble_eq_true rfl) (Nat.le_of_ble_eq_true rfl) hk hw HC (fun E n2 C2 _ h => by obtain ⟨hv, -⟩ := h; exact nomatch hv) (fun v1 n2 C1 _ h => ?_)
  obtain ⟨hv, hn, hR1⟩ := h
  dsimp only [gj_iv] at hv hn
  cases hv
  subst hn
  obtain ⟨z0, ⟨fs2, z70⟩, HM1⟩ := HM C1 hR1
  have h01 := z0.trans h0
  refine gj_istore d_La_law_1046 (by decide) ?_
  refine gj_aload_n d_La_law_1048 rfl ?_
  refine gj_aload_n d_La_law_1049 rfl ?_
  refine gj_iload d_La_law_1050 rfl ?_
  refine gj_kc (v := 1) d_La_law_1052 (by decide) ?_
  refine gj_iadd d_La_law_1053 ?_
  refine gj_top (y := nI (i + 1)) (nI_add i 1) ?_
  refine gj_sld d_La_law_1054 h01 (vp_in_nI (by omega) (by omega)) ?_
  refine gj_top (y := xs (i + 1)) (congrArg xs (nI_clamp (by omega))) ?_
  refine gj_aload_n d_La_law_1055 rfl ?_
  refine gj_iload d_La_law_1056 rfl ?_
  refine gj_kc (v := 2) d_La_law_1058 (by decide) ?_
  refine gj_iadd d_La_law_1059 ?_
  refine gj_top (y := nI (i + 2)) (nI_add i 2) ?_
  refine gj_sld d_La_law_1060 h01 (vp_in_nI (by omega) (by omega)) ?_
  refine gj_top (y := xs (i + 2)) (congrArg xs (nI_clamp (by omega))) ?_
  refine gj_callV (as := [.int (xs (i + 1)), .int (xs (i + 2))]) (rest := []) (K1 := 0) (N1 := 0) d_La_law_1061 mo_Mo_converted gw_789 gw_790 gw_791 z70 rfl pl_Mo_converted (Nat.le_of_ble_eq_true rfl) (Nat.le_of_ble_eq_true rfl) (by omega) (by omega) HM1 (fun E n2 C2 _ h => by obtain ⟨hv, -⟩ := h; exact nomatch hv) (fun v1 n2 C2 _ h => ?_)
  obtain ⟨hv, hn, hR2⟩ := h
  dsimp only [gj_iv, gj_lv2] at hv hn
  cases hv
  subst hn
  obtain ⟨y0, yI, ⟨fs3, y70⟩, yo⟩ := HE C2 hR2
  refine gj_lstore d_La_law_1064 (by decide) ?_
  refine gj_aload_n d_La_law_1066 rfl ?_
  refine gj_callV (as := []) (rest := []) (K1 := 0) (N1 := 0) d_La_law_1067 mo_Mo_thrown gw_679 gw_680 gw_681 y70 rfl pl_Mo_thrown (Nat.le_of_ble_eq_true rfl) (Nat.le_of_ble_eq_true rfl) (by omega) (by omega) (c_Mo_thrown0 y70) (fun E n2 C2 _ h => by cases h) (fun v1 n2 C3 _ h => ?_)
  cases h
  refine gj_iload d_La_law_1070 rfl ?_
  refine gj_icmp_eq (tgt := 1077) d_La_law_1072 (by decide) (fun _ => ?_) (fun h => absurd rfl h)
  refine gj_iload d_La_law_1077 rfl ?_
  refine gj_if_ne (tgt := 1093) d_La_law_1079 (by decide) (fun _ => ?_) (fun hk0 => ?_)
  · refine gj_goto (tgt := 1189) d_La_law_1093 (by decide) ?_
    refine gj_less (lc' := [(0, .ref (0)), (1, .ref (1)), (2, .ref (70)), (3, .ref (91)), (4, .int (nI i))]) ⟨rfl, rfl, rfl, rfl, rfl, trivial⟩ ?_
    exact HI C2 _ yI y0
  obtain ⟨o, y91, yb⟩ := yo hk0
  refine gj_aload_n d_La_law_1082 rfl ?_
  refine gj_kc (v := 0) d_La_law_1083 (by decide) ?_
  refine gj_lald d_La_law_1084 y91 rfl (vp_in_nI (n := 0) (by omega) (by decide)) ?_
  refine gj_topl (y := b) yb ?_
  refine gj_lload d_La_law_1085 rfl ?_
  refine gj_lcmp d_La_law_1087 ?_
  refine gj_if_eq (tgt := 1093) d_La_law_1088 (by decide) (fun _ => ?_) (fun h => absurd ((lg_cmp_eq _ _).mpr rfl) h)
  refine gj_goto (tgt := 1189) d_La_law_1093 (by decide) ?_
  refine gj_less (lc' := [(0, .ref (0)), (1, .ref (1)), (2, .ref (70)), (3, .ref (91)), (4, .int (nI i))]) ⟨rfl, rfl, rfl, rfl, rfl, trivial⟩ ?_
  exact HI C2 _ yI y0
set_option maxHeartbeats 2000000 in
theorem l_told {d K N k w n i L : Nat} {C : Nat → va_E} {xs : Nat → Int32} {I : (Nat → va_E) → Nat → Prop} {Q : gj_R → Prop} (h0 : C 0 = .inl (999, L, .inl xs)) (hi : i + 5 ≤ L) (hL : L ≤ 2560) (hk : k + 1 ≤ K) (hw : w + 6 ≤ N) (HS : lw_st I md_La_told md_Mo_told [.int (xs (i + 1)), .int (xs (i + 2))] d C n) (HI : ∀ C2 n2, I C2 n2 → C2 0 = C 0 → gj_G md_La_law (d + 1) K N (k + 1) (w + 6) 1189 [(0, .ref (0)), (1, .ref (1)), (2, .ref (70)), (3, .ref (91)), (4, .int (nI i))] [] n2 C2 Q) : gj_G md_La_law (d + 1) K N k w 1096 [(0, .ref (0)), (1, .ref (1)), (2, .ref (70)), (3, .ref (91)), (4, .int (nI i))] [] n C Q := by
  obtain ⟨kc, b, n1, R1, R2, HC, HM, HE⟩ := HS
  refine gj_aload_n d_La_law_1096 rfl ?_
  refine gj_aload_n d_La_law_1097 rfl ?_
  refine gj_iload d_La_law_1098 rfl ?_
  refine gj_kc (v := 1) d_La_law_1100 (by decide) ?_
  refine gj_iadd d_La_law_1101 ?_
  refine gj_top (y := nI (i + 1)) (nI_add i 1) ?_
  refine gj_sld d_La_law_1102 h0 (vp_in_nI (by omega) (by omega)) ?_
  refine gj_top (y := xs (i + 1)) (congrArg xs (nI_clamp (by omega))) ?_
  refine gj_aload_n d_La_law_1103 rfl ?_
  refine gj_iload d_La_law_1104 rfl ?_
  refine gj_kc (v := 2) d_La_law_1106 (by decide) ?_
  refine gj_iadd d_La_law_1107 ?_
  refine gj_top (y := nI (i + 2)) (nI_add i 2) ?_
  refine gj_sld d_La_law_1108 h0 (vp_in_nI (by omega) (by omega)) ?_
  refine gj_top (y := xs (i + 2)) (congrArg xs (nI_clamp (by omega))) ?_
  refine gj_aload_n d_La_law_1109 rfl ?_
  refine gj_callS (as := [.ref 1, .int (xs (i + 1)), .int (xs (i + 2)), .ref 91]) (rest := []) (K1 := 1) (N1 := 6) d_La_law_1110 mo_La_told gw_582 gw_583 gw_19 pl_La_told (Nat.le_of_ble_eq_true rfl) (Nat.le_of_ble_eq_true rfl) hk hw HC (fun E n2 C2 _ h => by obtain ⟨hv, -⟩ := h; exact nomatch hv) (fun v1 n2 C1 _ h => ?_)
  obtain ⟨hv, hn, hR1⟩ := h
  dsimp only [gj_iv] at hv hn
  cases hv
  subst hn
  obtain ⟨z0, ⟨fs2, z70⟩, HM1⟩ := HM C1 hR1
  have h01 := z0.trans h0
  refine gj_istore d_La_law_1113 (by decide) ?_
  refine gj_aload_n d_La_law_1115 rfl ?_
  refine gj_aload_n d_La_law_1116 rfl ?_
  refine gj_iload d_La_law_1117 rfl ?_
  refine gj_kc (v := 1) d_La_law_1119 (by decide) ?_
  refine gj_iadd d_La_law_1120 ?_
  refine gj_top (y := nI (i + 1)) (nI_add i 1) ?_
  refine gj_sld d_La_law_1121 h01 (vp_in_nI (by omega) (by omega)) ?_
  refine gj_top (y := xs (i + 1)) (congrArg xs (nI_clamp (by omega))) ?_
  refine gj_aload_n d_La_law_1122 rfl ?_
  refine gj_iload d_La_law_1123 rfl ?_
  refine gj_kc (v := 2) d_La_law_1125 (by decide) ?_
  refine gj_iadd d_La_law_1126 ?_
  refine gj_top (y := nI (i + 2)) (nI_add i 2) ?_
  refine gj_sld d_La_law_1127 h01 (vp_in_nI (by omega) (by omega)) ?_
  refine gj_top (y := xs (i + 2)) (congrArg xs (nI_clamp (by omega))) ?_
  refine gj_callV (as := [.int (xs (i + 1)), .int (xs (i + 2))]) (rest := []) (K1 := 0) (N1 := 0) d_La_law_1128 mo_Mo_told gw_794 gw_795 gw_796 z70 rfl pl_Mo_told (Nat.le_of_ble_eq_true rfl) (Nat.le_of_ble_eq_true rfl) (by omega) (by omega) HM1 (fun E n2 C2 _ h => by obtain ⟨hv, -⟩ := h; exact nomatch hv) (fun v1 n2 C2 _ h => ?_)
  obtain ⟨hv, hn, hR2⟩ := h
  dsimp only [gj_iv, gj_lv2] at hv hn
  cases hv
  subst hn
  obtain ⟨y0, yI, ⟨fs3, y70⟩, yo⟩ := HE C2 hR2
  refine gj_istore d_La_law_1131 (by decide) ?_
  refine gj_aload_n d_La_law_1133 rfl ?_
  refine gj_callV (as := []) (rest := []) (K1 := 0) (N1 := 0) d_La_law_1134 mo_Mo_thrown gw_679 gw_680 gw_681 y70 rfl pl_Mo_thrown (Nat.le_of_ble_eq_true rfl) (Nat.le_of_ble_eq_true rfl) (by omega) (by omega) (c_Mo_thrown0 y70) (fun E n2 C2 _ h => by cases h) (fun v1 n2 C3 _ h => ?_)
  cases h
  refine gj_iload d_La_law_1137 rfl ?_
  refine gj_icmp_eq (tgt := 1144) d_La_law_1139 (by decide) (fun _ => ?_) (fun h => absurd rfl h)
  refine gj_iload d_La_law_1144 rfl ?_
  refine gj_if_ne (tgt := 1161) d_La_law_1146 (by decide) (fun _ => ?_) (fun hk0 => ?_)
  · refine gj_goto (tgt := 1189) d_La_law_1161 (by decide) ?_
    refine gj_less (lc' := [(0, .ref (0)), (1, .ref (1)), (2, .ref (70)), (3, .ref (91)), (4, .int (nI i))]) ⟨rfl, rfl, rfl, rfl, rfl, trivial⟩ ?_
    exact HI C2 _ yI y0
  obtain ⟨o, y91, yb⟩ := yo hk0
  refine gj_aload_n d_La_law_1149 rfl ?_
  refine gj_kc (v := 0) d_La_law_1150 (by decide) ?_
  refine gj_lald d_La_law_1151 y91 rfl (vp_in_nI (n := 0) (by omega) (by decide)) ?_
  refine gj_topl (y := b.toInt64) yb ?_
  refine gj_iload d_La_law_1152 rfl ?_
  refine gj_i2l d_La_law_1154 ?_
  refine gj_lcmp d_La_law_1155 ?_
  refine gj_if_eq (tgt := 1161) d_La_law_1156 (by decide) (fun _ => ?_) (fun h => absurd ((lg_cmp_eq _ _).mpr rfl) h)
  refine gj_goto (tgt := 1189) d_La_law_1161 (by decide) ?_
  refine gj_less (lc' := [(0, .ref (0)), (1, .ref (1)), (2, .ref (70)), (3, .ref (91)), (4, .int (nI i))]) ⟨rfl, rfl, rfl, rfl, rfl, trivial⟩ ?_
  exact HI C2 _ yI y0
set_option maxHeartbeats 2000000 in
theorem l_count {d K N k w n i L : Nat} {C : Nat → va_E} {xs : Nat → Int32} {I : (Nat → va_E) → Nat → Prop} {Q : gj_R → Prop} (h0 : C 0 = .inl (999, L, .inl xs)) (hi : i + 5 ≤ L) (hL : L ≤ 2560) (hk : k + 1 ≤ K) (hw : w + 6 ≤ N) (HS : lw_sd I md_RB_count md_Mo_count [.int (xs (i + 1))] d C n) (HI : ∀ C2 n2, I C2 n2 → C2 0 = C 0 → gj_G md_La_law (d + 1) K N (k + 1) (w + 6) 1189 [(0, .ref (0)), (1, .ref (1)), (2, .ref (70)), (3, .ref (91)), (4, .int (nI i))] [] n2 C2 Q) : gj_G md_La_law (d + 1) K N k w 1164 [(0, .ref (0)), (1, .ref (1)), (2, .ref (70)), (3, .ref (91)), (4, .int (nI i))] [] n C Q := by
  obtain ⟨v, n1, R1, R2, ⟨fs1, o1⟩, HC, HM, HE⟩ := HS
  refine gj_aload_n d_La_law_1164 rfl ?_
  refine gj_aload_n d_La_law_1165 rfl ?_
  refine gj_iload d_La_law_1166 rfl ?_
  refine gj_kc (v := 1) d_La_law_1168 (by decide) ?_
  refine gj_iadd d_La_law_1169 ?_
  refine gj_top (y := nI (i + 1)) (nI_add i 1) ?_
  refine gj_sld d_La_law_1170 h0 (vp_in_nI (by omega) (by omega)) ?_
  refine gj_top (y := xs (i + 1)) (congrArg xs (nI_clamp (by omega))) ?_
  refine gj_callV (as := [.int (xs (i + 1))]) (rest := []) (K1 := 1) (N1 := 6) d_La_law_1171 mo_RB_count gw_217 gw_218 gw_219 o1 rfl pl_RB_count (Nat.le_of_ble_eq_true rfl) (Nat.le_of_ble_eq_true rfl) hk hw HC (fun E n2 C2 _ h => by obtain ⟨hv, -⟩ := h; exact nomatch hv) (fun v1 n2 C1 _ h => ?_)
  obtain ⟨hv, hn, hR1⟩ := h
  dsimp only [gj_iv] at hv hn
  cases hv
  subst hn
  obtain ⟨z0, ⟨fs2, z70⟩, HM1⟩ := HM C1 hR1
  have h01 := z0.trans h0
  refine gj_aload_n d_La_law_1174 rfl ?_
  refine gj_aload_n d_La_law_1175 rfl ?_
  refine gj_iload d_La_law_1176 rfl ?_
  refine gj_kc (v := 1) d_La_law_1178 (by decide) ?_
  refine gj_iadd d_La_law_1179 ?_
  refine gj_top (y := nI (i + 1)) (nI_add i 1) ?_
  refine gj_sld d_La_law_1180 h01 (vp_in_nI (by omega) (by omega)) ?_
  refine gj_top (y := xs (i + 1)) (congrArg xs (nI_clamp (by omega))) ?_
  refine gj_callV (as := [.int (xs (i + 1))]) (rest := [.int v]) (K1 := 0) (N1 := 0) d_La_law_1181 mo_Mo_count gw_798 gw_799 gw_800 z70 rfl pl_Mo_count (Nat.le_of_ble_eq_true rfl) (Nat.le_of_ble_eq_true rfl) (by omega) (by omega) HM1 (fun E n2 C2 _ h => by obtain ⟨hv, -⟩ := h; exact nomatch hv) (fun v1 n2 C2 _ h => ?_)
  obtain ⟨hv, hn, hR2⟩ := h
  dsimp only [gj_iv, gj_lv2] at hv hn
  cases hv
  subst hn
  obtain ⟨y0, yI⟩ := HE C2 hR2
  refine gj_icmp_eq (tgt := 1189) d_La_law_1184 (by decide) (fun _ => ?_) (fun h => absurd rfl h)
  exact HI C2 _ yI y0
