/-! the law's helpers -/
theorem nc_AE_IAE : Cond.not (.castable "java/lang/ArithmeticException" "java/lang/IllegalArgumentException") ∈ gj_nar := by decide +kernel
theorem nc_AE_ISE : Cond.not (.castable "java/lang/ArithmeticException" "java/lang/IllegalStateException") ∈ gj_nar := by decide +kernel
theorem nc_AE_NSE : Cond.not (.castable "java/lang/ArithmeticException" "java/util/NoSuchElementException") ∈ gj_nar := by decide +kernel
theorem nc_IAE_NSE : Cond.not (.castable "java/lang/IllegalArgumentException" "java/util/NoSuchElementException") ∈ gj_nar := by decide +kernel
theorem nc_ISE_IAE : Cond.not (.castable "java/lang/IllegalStateException" "java/lang/IllegalArgumentException") ∈ gj_nar := by decide +kernel
theorem nc_ISE_NSE : Cond.not (.castable "java/lang/IllegalStateException" "java/util/NoSuchElementException") ∈ gj_nar := by decide +kernel
theorem nc_UOE_IAE : Cond.not (.castable "java/lang/UnsupportedOperationException" "java/lang/IllegalArgumentException") ∈ gj_nar := by decide +kernel
theorem h_sign_IAE {d K N n : Nat} {C : Nat → va_E} {a1 : Int32} {fs : List Value} (o1 : C 1 = .inr (0, fs)) (hG : gj_G md_RB_sign d K N 0 0 0 [(0, .ref (1)), (1, .int (a1))] [] n C (fun r => r = (.inr "java/lang/IllegalArgumentException", n, C))) : gj_G md_La_sign (d + 1) K N 0 0 0 [(0, .ref (1)), (1, .int (a1)), (2, .ref (91))] [] n C (fun r => r = (gj_iv 1, n, C)) := by
  refine gj_aload_n d_La_sign_0 rfl ?_
  refine gj_kc (v := 0) d_La_sign_1 (by decide) ?_
  refine gj_aload_n d_La_sign_2 rfl ?_
  refine gj_iload_n d_La_sign_3 rfl ?_
  refine gj_callV (as := [.int (a1)]) (rest := [.int 0, .ref 91]) (K1 := K) (N1 := N) d_La_sign_4 mo_RB_sign gw_237 gw_238 gw_239 o1 rfl pl_RB_sign (Nat.le_of_ble_eq_true rfl) (Nat.le_of_ble_eq_true rfl) (by omega) (by omega) hG (fun E n2 C2 _ h => ?_) (fun v n2 C2 _ h => by cases h)
  cases h
  refine gj_xcatch (hpc := 12) (i := 3) (ln := 1) ⟨by decide, by decide, "java/lang/IllegalArgumentException", gw_235, Or.inl ⟨gw_246, rfl⟩⟩ (Or.inl ⟨3, rfl, rfl, d_La_sign_12⟩) (by decide) ?_
  refine gj_kc (v := 1) d_La_sign_13 (by decide) ?_
  exact gj_iret rfl (by omega) (by omega) d_La_sign_14 rfl
theorem h_sign_UOE {d K N n : Nat} {C : Nat → va_E} {a1 : Int32} {fs : List Value} (o1 : C 1 = .inr (0, fs)) (hG : gj_G md_RB_sign d K N 0 0 0 [(0, .ref (1)), (1, .int (a1))] [] n C (fun r => r = (.inr "java/lang/UnsupportedOperationException", n, C))) : gj_G md_La_sign (d + 1) K N 0 0 0 [(0, .ref (1)), (1, .int (a1)), (2, .ref (91))] [] n C (fun r => r = (gj_iv 2, n, C)) := by
  refine gj_aload_n d_La_sign_0 rfl ?_
  refine gj_kc (v := 0) d_La_sign_1 (by decide) ?_
  refine gj_aload_n d_La_sign_2 rfl ?_
  refine gj_iload_n d_La_sign_3 rfl ?_
  refine gj_callV (as := [.int (a1)]) (rest := [.int 0, .ref 91]) (K1 := K) (N1 := N) d_La_sign_4 mo_RB_sign gw_237 gw_238 gw_239 o1 rfl pl_RB_sign (Nat.le_of_ble_eq_true rfl) (Nat.le_of_ble_eq_true rfl) (by omega) (by omega) hG (fun E n2 C2 _ h => ?_) (fun v n2 C2 _ h => by cases h)
  cases h
  refine gj_xcatch (hpc := 15) (i := 3) (ln := 1) ⟨by decide, by decide, "java/lang/IllegalArgumentException", gw_235, Or.inr ⟨nc_UOE_IAE, ⟨by decide, by decide, "java/lang/UnsupportedOperationException", gw_236, Or.inl ⟨gw_316, rfl⟩⟩⟩⟩ (Or.inl ⟨3, rfl, rfl, d_La_sign_15⟩) (by decide) ?_
  refine gj_kc (v := 2) d_La_sign_16 (by decide) ?_
  exact gj_iret rfl (by omega) (by omega) d_La_sign_17 rfl
theorem h_sign {d K N n n2 : Nat} {C : Nat → va_E} {a1 : Int32} {v : Int32} {fs : List Value} {o : Nat → Int64} {R : (Nat → va_E) → Prop} (o1 : C 1 = .inr (0, fs)) (hG : gj_G md_RB_sign d K N 0 0 0 [(0, .ref (1)), (1, .int (a1))] [] n C (fun r => r.1 = gj_iv v ∧ r.2.1 = n2 ∧ R r.2.2)) (h91 : ∀ C1, R C1 → C1 91 = .inl (1, 1, .inr (.inl o))) : gj_G md_La_sign (d + 1) K N 0 0 0 [(0, .ref (1)), (1, .int (a1)), (2, .ref (91))] [] n C (fun r => r.1 = gj_iv 0 ∧ r.2.1 = n2 ∧ ∃ C1, R C1 ∧ r.2.2 = va_up C1 91 (.inl (1, 1, .inr (.inl (vp_updL o 0 v.toInt64))))) := by
  refine gj_aload_n d_La_sign_0 rfl ?_
  refine gj_kc (v := 0) d_La_sign_1 (by decide) ?_
  refine gj_aload_n d_La_sign_2 rfl ?_
  refine gj_iload_n d_La_sign_3 rfl ?_
  refine gj_callV (as := [.int (a1)]) (rest := [.int 0, .ref 91]) (K1 := K) (N1 := N) d_La_sign_4 mo_RB_sign gw_237 gw_238 gw_239 o1 rfl pl_RB_sign (Nat.le_of_ble_eq_true rfl) (Nat.le_of_ble_eq_true rfl) (by omega) (by omega) hG (fun E n2 C2 _ h => by obtain ⟨hv, -⟩ := h; exact nomatch hv) (fun v2 n3 C2 _ h => ?_)
  obtain ⟨hv, hn, hR⟩ := h
  dsimp only [gj_iv, gj_lv2] at hv hn
  cases hv
  subst hn
  refine gj_i2l d_La_sign_7 ?_
  refine gj_last d_La_sign_8 (h91 C2 hR) rfl (vp_in_nI (n := 0) (by omega) (by decide)) ?_
  refine gj_goto (tgt := 18) d_La_sign_9 (by decide) ?_
  refine gj_kc (v := 0) d_La_sign_18 (by decide) ?_
  exact gj_iret rfl (by omega) (by omega) d_La_sign_19 ⟨rfl, rfl, C2, hR, rfl⟩
theorem h_shipment_IAE {d K N n : Nat} {C : Nat → va_E} {a1 a2 a3 : Int32} {fs : List Value} (o1 : C 1 = .inr (0, fs)) (hG : gj_G md_RB_shipment d K N 0 0 0 [(0, .ref (1)), (1, .int (a1)), (2, .int (a2)), (3, .int (a3))] [] n C (fun r => r = (.inr "java/lang/IllegalArgumentException", n, C))) : gj_G md_La_shipment (d + 1) K N 0 0 0 [(0, .ref (1)), (1, .int (a1)), (2, .int (a2)), (3, .int (a3)), (4, .ref (91))] [] n C (fun r => r = (gj_iv 1, n, C)) := by
  refine gj_aload d_La_shipment_0 rfl ?_
  refine gj_kc (v := 0) d_La_shipment_2 (by decide) ?_
  refine gj_aload_n d_La_shipment_3 rfl ?_
  refine gj_iload_n d_La_shipment_4 rfl ?_
  refine gj_iload_n d_La_shipment_5 rfl ?_
  refine gj_iload_n d_La_shipment_6 rfl ?_
  refine gj_callV (as := [.int (a1), .int (a2), .int (a3)]) (rest := [.int 0, .ref 91]) (K1 := K) (N1 := N) d_La_shipment_7 mo_RB_shipment gw_337 gw_338 gw_339 o1 rfl pl_RB_shipment (Nat.le_of_ble_eq_true rfl) (Nat.le_of_ble_eq_true rfl) (by omega) (by omega) hG (fun E n2 C2 _ h => ?_) (fun v n2 C2 _ h => by cases h)
  cases h
  refine gj_xcatch (hpc := 15) (i := 5) (ln := 2) ⟨by decide, by decide, "java/lang/IllegalArgumentException", gw_235, Or.inl ⟨gw_246, rfl⟩⟩ (Or.inr ⟨rfl, d_La_shipment_15⟩) (by decide) ?_
  refine gj_kc (v := 1) d_La_shipment_17 (by decide) ?_
  exact gj_iret rfl (by omega) (by omega) d_La_shipment_18 rfl
theorem h_shipment_UOE {d K N n : Nat} {C : Nat → va_E} {a1 a2 a3 : Int32} {fs : List Value} (o1 : C 1 = .inr (0, fs)) (hG : gj_G md_RB_shipment d K N 0 0 0 [(0, .ref (1)), (1, .int (a1)), (2, .int (a2)), (3, .int (a3))] [] n C (fun r => r = (.inr "java/lang/UnsupportedOperationException", n, C))) : gj_G md_La_shipment (d + 1) K N 0 0 0 [(0, .ref (1)), (1, .int (a1)), (2, .int (a2)), (3, .int (a3)), (4, .ref (91))] [] n C (fun r => r = (gj_iv 2, n, C)) := by
  refine gj_aload d_La_shipment_0 rfl ?_
  refine gj_kc (v := 0) d_La_shipment_2 (by decide) ?_
  refine gj_aload_n d_La_shipment_3 rfl ?_
  refine gj_iload_n d_La_shipment_4 rfl ?_
  refine gj_iload_n d_La_shipment_5 rfl ?_
  refine gj_iload_n d_La_shipment_6 rfl ?_
  refine gj_callV (as := [.int (a1), .int (a2), .int (a3)]) (rest := [.int 0, .ref 91]) (K1 := K) (N1 := N) d_La_shipment_7 mo_RB_shipment gw_337 gw_338 gw_339 o1 rfl pl_RB_shipment (Nat.le_of_ble_eq_true rfl) (Nat.le_of_ble_eq_true rfl) (by omega) (by omega) hG (fun E n2 C2 _ h => ?_) (fun v n2 C2 _ h => by cases h)
  cases h
  refine gj_xcatch (hpc := 19) (i := 5) (ln := 2) ⟨by decide, by decide, "java/lang/IllegalArgumentException", gw_235, Or.inr ⟨nc_UOE_IAE, ⟨by decide, by decide, "java/lang/UnsupportedOperationException", gw_236, Or.inl ⟨gw_316, rfl⟩⟩⟩⟩ (Or.inr ⟨rfl, d_La_shipment_19⟩) (by decide) ?_
  refine gj_kc (v := 2) d_La_shipment_21 (by decide) ?_
  exact gj_iret rfl (by omega) (by omega) d_La_shipment_22 rfl
theorem h_shipment {d K N n n2 : Nat} {C : Nat → va_E} {a1 a2 a3 : Int32} {v : Int32} {fs : List Value} {o : Nat → Int64} {R : (Nat → va_E) → Prop} (o1 : C 1 = .inr (0, fs)) (hG : gj_G md_RB_shipment d K N 0 0 0 [(0, .ref (1)), (1, .int (a1)), (2, .int (a2)), (3, .int (a3))] [] n C (fun r => r.1 = gj_iv v ∧ r.2.1 = n2 ∧ R r.2.2)) (h91 : ∀ C1, R C1 → C1 91 = .inl (1, 1, .inr (.inl o))) : gj_G md_La_shipment (d + 1) K N 0 0 0 [(0, .ref (1)), (1, .int (a1)), (2, .int (a2)), (3, .int (a3)), (4, .ref (91))] [] n C (fun r => r.1 = gj_iv 0 ∧ r.2.1 = n2 ∧ ∃ C1, R C1 ∧ r.2.2 = va_up C1 91 (.inl (1, 1, .inr (.inl (vp_updL o 0 v.toInt64))))) := by
  refine gj_aload d_La_shipment_0 rfl ?_
  refine gj_kc (v := 0) d_La_shipment_2 (by decide) ?_
  refine gj_aload_n d_La_shipment_3 rfl ?_
  refine gj_iload_n d_La_shipment_4 rfl ?_
  refine gj_iload_n d_La_shipment_5 rfl ?_
  refine gj_iload_n d_La_shipment_6 rfl ?_
  refine gj_callV (as := [.int (a1), .int (a2), .int (a3)]) (rest := [.int 0, .ref 91]) (K1 := K) (N1 := N) d_La_shipment_7 mo_RB_shipment gw_337 gw_338 gw_339 o1 rfl pl_RB_shipment (Nat.le_of_ble_eq_true rfl) (Nat.le_of_ble_eq_true rfl) (by omega) (by omega) hG (fun E n2 C2 _ h => by obtain ⟨hv, -⟩ := h; exact nomatch hv) (fun v2 n3 C2 _ h => ?_)
  obtain ⟨hv, hn, hR⟩ := h
  dsimp only [gj_iv, gj_lv2] at hv hn
  cases hv
  subst hn
  refine gj_i2l d_La_shipment_10 ?_
  refine gj_last d_La_shipment_11 (h91 C2 hR) rfl (vp_in_nI (n := 0) (by omega) (by decide)) ?_
  refine gj_goto (tgt := 23) d_La_shipment_12 (by decide) ?_
  refine gj_kc (v := 0) d_La_shipment_23 (by decide) ?_
  exact gj_iret rfl (by omega) (by omega) d_La_shipment_24 ⟨rfl, rfl, C2, hR, rfl⟩
theorem h_weight_NSE {d K N n : Nat} {C : Nat → va_E} {a1 a2 : Int32} {fs : List Value} (o1 : C 1 = .inr (0, fs)) (hG : gj_G md_RB_weight d K N 0 0 0 [(0, .ref (1)), (1, .int (a1)), (2, .int (a2))] [] n C (fun r => r = (.inr "java/util/NoSuchElementException", n, C))) : gj_G md_La_weight (d + 1) K N 0 0 0 [(0, .ref (1)), (1, .int (a1)), (2, .int (a2)), (3, .ref (91))] [] n C (fun r => r = (gj_iv 1, n, C)) := by
  refine gj_aload_n d_La_weight_0 rfl ?_
  refine gj_kc (v := 0) d_La_weight_1 (by decide) ?_
  refine gj_aload_n d_La_weight_2 rfl ?_
  refine gj_iload_n d_La_weight_3 rfl ?_
  refine gj_iload_n d_La_weight_4 rfl ?_
  refine gj_callV (as := [.int (a1), .int (a2)]) (rest := [.int 0, .ref 91]) (K1 := K) (N1 := N) d_La_weight_5 mo_RB_weight gw_381 gw_382 gw_383 o1 rfl pl_RB_weight (Nat.le_of_ble_eq_true rfl) (Nat.le_of_ble_eq_true rfl) (by omega) (by omega) hG (fun E n2 C2 _ h => ?_) (fun v n2 C2 _ h => by cases h)
  cases h
  refine gj_xcatch (hpc := 13) (i := 4) (ln := 2) ⟨by decide, by decide, "java/util/NoSuchElementException", gw_379, Or.inl ⟨gw_391, rfl⟩⟩ (Or.inr ⟨rfl, d_La_weight_13⟩) (by decide) ?_
  refine gj_kc (v := 1) d_La_weight_15 (by decide) ?_
  exact gj_iret rfl (by omega) (by omega) d_La_weight_16 rfl
theorem h_weight_IAE {d K N n : Nat} {C : Nat → va_E} {a1 a2 : Int32} {fs : List Value} (o1 : C 1 = .inr (0, fs)) (hG : gj_G md_RB_weight d K N 0 0 0 [(0, .ref (1)), (1, .int (a1)), (2, .int (a2))] [] n C (fun r => r = (.inr "java/lang/IllegalArgumentException", n, C))) : gj_G md_La_weight (d + 1) K N 0 0 0 [(0, .ref (1)), (1, .int (a1)), (2, .int (a2)), (3, .ref (91))] [] n C (fun r => r = (gj_iv 2, n, C)) := by
  refine gj_aload_n d_La_weight_0 rfl ?_
  refine gj_kc (v := 0) d_La_weight_1 (by decide) ?_
  refine gj_aload_n d_La_weight_2 rfl ?_
  refine gj_iload_n d_La_weight_3 rfl ?_
  refine gj_iload_n d_La_weight_4 rfl ?_
  refine gj_callV (as := [.int (a1), .int (a2)]) (rest := [.int 0, .ref 91]) (K1 := K) (N1 := N) d_La_weight_5 mo_RB_weight gw_381 gw_382 gw_383 o1 rfl pl_RB_weight (Nat.le_of_ble_eq_true rfl) (Nat.le_of_ble_eq_true rfl) (by omega) (by omega) hG (fun E n2 C2 _ h => ?_) (fun v n2 C2 _ h => by cases h)
  cases h
  refine gj_xcatch (hpc := 17) (i := 4) (ln := 2) ⟨by decide, by decide, "java/util/NoSuchElementException", gw_379, Or.inr ⟨nc_IAE_NSE, ⟨by decide, by decide, "java/lang/IllegalArgumentException", gw_235, Or.inl ⟨gw_246, rfl⟩⟩⟩⟩ (Or.inr ⟨rfl, d_La_weight_17⟩) (by decide) ?_
  refine gj_kc (v := 2) d_La_weight_19 (by decide) ?_
  exact gj_iret rfl (by omega) (by omega) d_La_weight_20 rfl
theorem h_weight_AE {d K N n : Nat} {C : Nat → va_E} {a1 a2 : Int32} {fs : List Value} (o1 : C 1 = .inr (0, fs)) (hG : gj_G md_RB_weight d K N 0 0 0 [(0, .ref (1)), (1, .int (a1)), (2, .int (a2))] [] n C (fun r => r = (.inr "java/lang/ArithmeticException", n, C))) : gj_G md_La_weight (d + 1) K N 0 0 0 [(0, .ref (1)), (1, .int (a1)), (2, .int (a2)), (3, .ref (91))] [] n C (fun r => r = (gj_iv 3, n, C)) := by
  refine gj_aload_n d_La_weight_0 rfl ?_
  refine gj_kc (v := 0) d_La_weight_1 (by decide) ?_
  refine gj_aload_n d_La_weight_2 rfl ?_
  refine gj_iload_n d_La_weight_3 rfl ?_
  refine gj_iload_n d_La_weight_4 rfl ?_
  refine gj_callV (as := [.int (a1), .int (a2)]) (rest := [.int 0, .ref 91]) (K1 := K) (N1 := N) d_La_weight_5 mo_RB_weight gw_381 gw_382 gw_383 o1 rfl pl_RB_weight (Nat.le_of_ble_eq_true rfl) (Nat.le_of_ble_eq_true rfl) (by omega) (by omega) hG (fun E n2 C2 _ h => ?_) (fun v n2 C2 _ h => by cases h)
  cases h
  refine gj_xcatch (hpc := 21) (i := 4) (ln := 2) ⟨by decide, by decide, "java/util/NoSuchElementException", gw_379, Or.inr ⟨nc_AE_NSE, ⟨by decide, by decide, "java/lang/IllegalArgumentException", gw_235, Or.inr ⟨nc_AE_IAE, ⟨by decide, by decide, "java/lang/ArithmeticException", gw_380, Or.inl ⟨gw_421, rfl⟩⟩⟩⟩⟩⟩ (Or.inr ⟨rfl, d_La_weight_21⟩) (by decide) ?_
  refine gj_kc (v := 3) d_La_weight_23 (by decide) ?_
  exact gj_iret rfl (by omega) (by omega) d_La_weight_24 rfl
theorem h_weight {d K N n n2 : Nat} {C : Nat → va_E} {a1 a2 : Int32} {v : Int32} {fs : List Value} {o : Nat → Int64} {R : (Nat → va_E) → Prop} (o1 : C 1 = .inr (0, fs)) (hG : gj_G md_RB_weight d K N 0 0 0 [(0, .ref (1)), (1, .int (a1)), (2, .int (a2))] [] n C (fun r => r.1 = gj_iv v ∧ r.2.1 = n2 ∧ R r.2.2)) (h91 : ∀ C1, R C1 → C1 91 = .inl (1, 1, .inr (.inl o))) : gj_G md_La_weight (d + 1) K N 0 0 0 [(0, .ref (1)), (1, .int (a1)), (2, .int (a2)), (3, .ref (91))] [] n C (fun r => r.1 = gj_iv 0 ∧ r.2.1 = n2 ∧ ∃ C1, R C1 ∧ r.2.2 = va_up C1 91 (.inl (1, 1, .inr (.inl (vp_updL o 0 v.toInt64))))) := by
  refine gj_aload_n d_La_weight_0 rfl ?_
  refine gj_kc (v := 0) d_La_weight_1 (by decide) ?_
  refine gj_aload_n d_La_weight_2 rfl ?_
  refine gj_iload_n d_La_weight_3 rfl ?_
  refine gj_iload_n d_La_weight_4 rfl ?_
  refine gj_callV (as := [.int (a1), .int (a2)]) (rest := [.int 0, .ref 91]) (K1 := K) (N1 := N) d_La_weight_5 mo_RB_weight gw_381 gw_382 gw_383 o1 rfl pl_RB_weight (Nat.le_of_ble_eq_true rfl) (Nat.le_of_ble_eq_true rfl) (by omega) (by omega) hG (fun E n2 C2 _ h => by obtain ⟨hv, -⟩ := h; exact nomatch hv) (fun v2 n3 C2 _ h => ?_)
  obtain ⟨hv, hn, hR⟩ := h
  dsimp only [gj_iv, gj_lv2] at hv hn
  cases hv
  subst hn
  refine gj_i2l d_La_weight_8 ?_
  refine gj_last d_La_weight_9 (h91 C2 hR) rfl (vp_in_nI (n := 0) (by omega) (by decide)) ?_
  refine gj_goto (tgt := 25) d_La_weight_10 (by decide) ?_
  refine gj_kc (v := 0) d_La_weight_25 (by decide) ?_
  exact gj_iret rfl (by omega) (by omega) d_La_weight_26 ⟨rfl, rfl, C2, hR, rfl⟩
theorem h_price_NSE {d K N n : Nat} {C : Nat → va_E} {a1 a2 : Int32} {fs : List Value} (o1 : C 1 = .inr (0, fs)) (hG : gj_G md_RB_price d K N 0 0 0 [(0, .ref (1)), (1, .int (a1)), (2, .int (a2))] [] n C (fun r => r = (.inr "java/util/NoSuchElementException", n, C))) : gj_G md_La_price (d + 1) K N 0 0 0 [(0, .ref (1)), (1, .int (a1)), (2, .int (a2)), (3, .ref (91))] [] n C (fun r => r = (gj_iv 1, n, C)) := by
  refine gj_aload_n d_La_price_0 rfl ?_
  refine gj_kc (v := 0) d_La_price_1 (by decide) ?_
  refine gj_aload_n d_La_price_2 rfl ?_
  refine gj_iload_n d_La_price_3 rfl ?_
  refine gj_iload_n d_La_price_4 rfl ?_
  refine gj_callV (as := [.int (a1), .int (a2)]) (rest := [.int 0, .ref 91]) (K1 := K) (N1 := N) d_La_price_5 mo_RB_price gw_439 gw_440 gw_441 o1 rfl pl_RB_price (Nat.le_of_ble_eq_true rfl) (Nat.le_of_ble_eq_true rfl) (by omega) (by omega) hG (fun E n2 C2 _ h => ?_) (fun v n2 C2 _ h => by cases h)
  cases h
  refine gj_xcatch (hpc := 13) (i := 4) (ln := 2) ⟨by decide, by decide, "java/util/NoSuchElementException", gw_379, Or.inl ⟨gw_391, rfl⟩⟩ (Or.inr ⟨rfl, d_La_price_13⟩) (by decide) ?_
  refine gj_kc (v := 1) d_La_price_15 (by decide) ?_
  exact gj_iret rfl (by omega) (by omega) d_La_price_16 rfl
theorem h_price_IAE {d K N n : Nat} {C : Nat → va_E} {a1 a2 : Int32} {fs : List Value} (o1 : C 1 = .inr (0, fs)) (hG : gj_G md_RB_price d K N 0 0 0 [(0, .ref (1)), (1, .int (a1)), (2, .int (a2))] [] n C (fun r => r = (.inr "java/lang/IllegalArgumentException", n, C))) : gj_G md_La_price (d + 1) K N 0 0 0 [(0, .ref (1)), (1, .int (a1)), (2, .int (a2)), (3, .ref (91))] [] n C (fun r => r = (gj_iv 2, n, C)) := by
  refine gj_aload_n d_La_price_0 rfl ?_
  refine gj_kc (v := 0) d_La_price_1 (by decide) ?_
  refine gj_aload_n d_La_price_2 rfl ?_
  refine gj_iload_n d_La_price_3 rfl ?_
  refine gj_iload_n d_La_price_4 rfl ?_
  refine gj_callV (as := [.int (a1), .int (a2)]) (rest := [.int 0, .ref 91]) (K1 := K) (N1 := N) d_La_price_5 mo_RB_price gw_439 gw_440 gw_441 o1 rfl pl_RB_price (Nat.le_of_ble_eq_true rfl) (Nat.le_of_ble_eq_true rfl) (by omega) (by omega) hG (fun E n2 C2 _ h => ?_) (fun v n2 C2 _ h => by cases h)
  cases h
  refine gj_xcatch (hpc := 17) (i := 4) (ln := 2) ⟨by decide, by decide, "java/util/NoSuchElementException", gw_379, Or.inr ⟨nc_IAE_NSE, ⟨by decide, by decide, "java/lang/IllegalArgumentException", gw_235, Or.inl ⟨gw_246, rfl⟩⟩⟩⟩ (Or.inr ⟨rfl, d_La_price_17⟩) (by decide) ?_
  refine gj_kc (v := 2) d_La_price_19 (by decide) ?_
  exact gj_iret rfl (by omega) (by omega) d_La_price_20 rfl
theorem h_price_AE {d K N n : Nat} {C : Nat → va_E} {a1 a2 : Int32} {fs : List Value} (o1 : C 1 = .inr (0, fs)) (hG : gj_G md_RB_price d K N 0 0 0 [(0, .ref (1)), (1, .int (a1)), (2, .int (a2))] [] n C (fun r => r = (.inr "java/lang/ArithmeticException", n, C))) : gj_G md_La_price (d + 1) K N 0 0 0 [(0, .ref (1)), (1, .int (a1)), (2, .int (a2)), (3, .ref (91))] [] n C (fun r => r = (gj_iv 3, n, C)) := by
  refine gj_aload_n d_La_price_0 rfl ?_
  refine gj_kc (v := 0) d_La_price_1 (by decide) ?_
  refine gj_aload_n d_La_price_2 rfl ?_
  refine gj_iload_n d_La_price_3 rfl ?_
  refine gj_iload_n d_La_price_4 rfl ?_
  refine gj_callV (as := [.int (a1), .int (a2)]) (rest := [.int 0, .ref 91]) (K1 := K) (N1 := N) d_La_price_5 mo_RB_price gw_439 gw_440 gw_441 o1 rfl pl_RB_price (Nat.le_of_ble_eq_true rfl) (Nat.le_of_ble_eq_true rfl) (by omega) (by omega) hG (fun E n2 C2 _ h => ?_) (fun v n2 C2 _ h => by cases h)
  cases h
  refine gj_xcatch (hpc := 21) (i := 4) (ln := 2) ⟨by decide, by decide, "java/util/NoSuchElementException", gw_379, Or.inr ⟨nc_AE_NSE, ⟨by decide, by decide, "java/lang/IllegalArgumentException", gw_235, Or.inr ⟨nc_AE_IAE, ⟨by decide, by decide, "java/lang/ArithmeticException", gw_380, Or.inl ⟨gw_421, rfl⟩⟩⟩⟩⟩⟩ (Or.inr ⟨rfl, d_La_price_21⟩) (by decide) ?_
  refine gj_kc (v := 3) d_La_price_23 (by decide) ?_
  exact gj_iret rfl (by omega) (by omega) d_La_price_24 rfl
theorem h_price {d K N n n2 : Nat} {C : Nat → va_E} {a1 a2 : Int32} {v : Int32} {fs : List Value} {o : Nat → Int64} {R : (Nat → va_E) → Prop} (o1 : C 1 = .inr (0, fs)) (hG : gj_G md_RB_price d K N 0 0 0 [(0, .ref (1)), (1, .int (a1)), (2, .int (a2))] [] n C (fun r => r.1 = gj_iv v ∧ r.2.1 = n2 ∧ R r.2.2)) (h91 : ∀ C1, R C1 → C1 91 = .inl (1, 1, .inr (.inl o))) : gj_G md_La_price (d + 1) K N 0 0 0 [(0, .ref (1)), (1, .int (a1)), (2, .int (a2)), (3, .ref (91))] [] n C (fun r => r.1 = gj_iv 0 ∧ r.2.1 = n2 ∧ ∃ C1, R C1 ∧ r.2.2 = va_up C1 91 (.inl (1, 1, .inr (.inl (vp_updL o 0 v.toInt64))))) := by
  refine gj_aload_n d_La_price_0 rfl ?_
  refine gj_kc (v := 0) d_La_price_1 (by decide) ?_
  refine gj_aload_n d_La_price_2 rfl ?_
  refine gj_iload_n d_La_price_3 rfl ?_
  refine gj_iload_n d_La_price_4 rfl ?_
  refine gj_callV (as := [.int (a1), .int (a2)]) (rest := [.int 0, .ref 91]) (K1 := K) (N1 := N) d_La_price_5 mo_RB_price gw_439 gw_440 gw_441 o1 rfl pl_RB_price (Nat.le_of_ble_eq_true rfl) (Nat.le_of_ble_eq_true rfl) (by omega) (by omega) hG (fun E n2 C2 _ h => by obtain ⟨hv, -⟩ := h; exact nomatch hv) (fun v2 n3 C2 _ h => ?_)
  obtain ⟨hv, hn, hR⟩ := h
  dsimp only [gj_iv, gj_lv2] at hv hn
  cases hv
  subst hn
  refine gj_i2l d_La_price_8 ?_
  refine gj_last d_La_price_9 (h91 C2 hR) rfl (vp_in_nI (n := 0) (by omega) (by decide)) ?_
  refine gj_goto (tgt := 25) d_La_price_10 (by decide) ?_
  refine gj_kc (v := 0) d_La_price_25 (by decide) ?_
  exact gj_iret rfl (by omega) (by omega) d_La_price_26 ⟨rfl, rfl, C2, hR, rfl⟩
theorem h_cheapest_NSE {d K N n : Nat} {C : Nat → va_E} {a1 : Int32} {fs : List Value} (o1 : C 1 = .inr (0, fs)) (hG : gj_G md_RB_cheapest d K N 0 0 0 [(0, .ref (1)), (1, .int (a1))] [] n C (fun r => r = (.inr "java/util/NoSuchElementException", n, C))) : gj_G md_La_cheapest (d + 1) K N 0 0 0 [(0, .ref (1)), (1, .int (a1)), (2, .ref (91))] [] n C (fun r => r = (gj_iv 1, n, C)) := by
  refine gj_aload_n d_La_cheapest_0 rfl ?_
  refine gj_kc (v := 0) d_La_cheapest_1 (by decide) ?_
  refine gj_aload_n d_La_cheapest_2 rfl ?_
  refine gj_iload_n d_La_cheapest_3 rfl ?_
  refine gj_callV (as := [.int (a1)]) (rest := [.int 0, .ref 91]) (K1 := K) (N1 := N) d_La_cheapest_4 mo_RB_cheapest gw_467 gw_468 gw_469 o1 rfl pl_RB_cheapest (Nat.le_of_ble_eq_true rfl) (Nat.le_of_ble_eq_true rfl) (by omega) (by omega) hG (fun E n2 C2 _ h => ?_) (fun v n2 C2 _ h => by cases h)
  cases h
  refine gj_xcatch (hpc := 12) (i := 3) (ln := 1) ⟨by decide, by decide, "java/util/NoSuchElementException", gw_379, Or.inl ⟨gw_391, rfl⟩⟩ (Or.inl ⟨3, rfl, rfl, d_La_cheapest_12⟩) (by decide) ?_
  refine gj_kc (v := 1) d_La_cheapest_13 (by decide) ?_
  exact gj_iret rfl (by omega) (by omega) d_La_cheapest_14 rfl
theorem h_cheapest {d K N n n2 : Nat} {C : Nat → va_E} {a1 : Int32} {v : Int32} {fs : List Value} {o : Nat → Int64} {R : (Nat → va_E) → Prop} (o1 : C 1 = .inr (0, fs)) (hG : gj_G md_RB_cheapest d K N 0 0 0 [(0, .ref (1)), (1, .int (a1))] [] n C (fun r => r.1 = gj_iv v ∧ r.2.1 = n2 ∧ R r.2.2)) (h91 : ∀ C1, R C1 → C1 91 = .inl (1, 1, .inr (.inl o))) : gj_G md_La_cheapest (d + 1) K N 0 0 0 [(0, .ref (1)), (1, .int (a1)), (2, .ref (91))] [] n C (fun r => r.1 = gj_iv 0 ∧ r.2.1 = n2 ∧ ∃ C1, R C1 ∧ r.2.2 = va_up C1 91 (.inl (1, 1, .inr (.inl (vp_updL o 0 v.toInt64))))) := by
  refine gj_aload_n d_La_cheapest_0 rfl ?_
  refine gj_kc (v := 0) d_La_cheapest_1 (by decide) ?_
  refine gj_aload_n d_La_cheapest_2 rfl ?_
  refine gj_iload_n d_La_cheapest_3 rfl ?_
  refine gj_callV (as := [.int (a1)]) (rest := [.int 0, .ref 91]) (K1 := K) (N1 := N) d_La_cheapest_4 mo_RB_cheapest gw_467 gw_468 gw_469 o1 rfl pl_RB_cheapest (Nat.le_of_ble_eq_true rfl) (Nat.le_of_ble_eq_true rfl) (by omega) (by omega) hG (fun E n2 C2 _ h => by obtain ⟨hv, -⟩ := h; exact nomatch hv) (fun v2 n3 C2 _ h => ?_)
  obtain ⟨hv, hn, hR⟩ := h
  dsimp only [gj_iv, gj_lv2] at hv hn
  cases hv
  subst hn
  refine gj_i2l d_La_cheapest_7 ?_
  refine gj_last d_La_cheapest_8 (h91 C2 hR) rfl (vp_in_nI (n := 0) (by omega) (by decide)) ?_
  refine gj_goto (tgt := 15) d_La_cheapest_9 (by decide) ?_
  refine gj_kc (v := 0) d_La_cheapest_15 (by decide) ?_
  exact gj_iret rfl (by omega) (by omega) d_La_cheapest_16 ⟨rfl, rfl, C2, hR, rfl⟩
theorem h_parcels_NSE {d K N n : Nat} {C : Nat → va_E} {a1 a2 : Int32} {fs : List Value} (o1 : C 1 = .inr (0, fs)) (hG : gj_G md_RB_parcels d K N 0 0 0 [(0, .ref (1)), (1, .int (a1)), (2, .int (a2))] [] n C (fun r => r = (.inr "java/util/NoSuchElementException", n, C))) : gj_G md_La_parcels (d + 1) K N 0 0 0 [(0, .ref (1)), (1, .int (a1)), (2, .int (a2)), (3, .ref (91))] [] n C (fun r => r = (gj_iv 1, n, C)) := by
  refine gj_aload_n d_La_parcels_0 rfl ?_
  refine gj_kc (v := 0) d_La_parcels_1 (by decide) ?_
  refine gj_aload_n d_La_parcels_2 rfl ?_
  refine gj_iload_n d_La_parcels_3 rfl ?_
  refine gj_iload_n d_La_parcels_4 rfl ?_
  refine gj_callV (as := [.int (a1), .int (a2)]) (rest := [.int 0, .ref 91]) (K1 := K) (N1 := N) d_La_parcels_5 mo_RB_parcels gw_474 gw_475 gw_476 o1 rfl pl_RB_parcels (Nat.le_of_ble_eq_true rfl) (Nat.le_of_ble_eq_true rfl) (by omega) (by omega) hG (fun E n2 C2 _ h => ?_) (fun v n2 C2 _ h => by cases h)
  cases h
  refine gj_xcatch (hpc := 13) (i := 4) (ln := 2) ⟨by decide, by decide, "java/util/NoSuchElementException", gw_379, Or.inl ⟨gw_391, rfl⟩⟩ (Or.inr ⟨rfl, d_La_parcels_13⟩) (by decide) ?_
  refine gj_kc (v := 1) d_La_parcels_15 (by decide) ?_
  exact gj_iret rfl (by omega) (by omega) d_La_parcels_16 rfl
theorem h_parcels_IAE {d K N n : Nat} {C : Nat → va_E} {a1 a2 : Int32} {fs : List Value} (o1 : C 1 = .inr (0, fs)) (hG : gj_G md_RB_parcels d K N 0 0 0 [(0, .ref (1)), (1, .int (a1)), (2, .int (a2))] [] n C (fun r => r = (.inr "java/lang/IllegalArgumentException", n, C))) : gj_G md_La_parcels (d + 1) K N 0 0 0 [(0, .ref (1)), (1, .int (a1)), (2, .int (a2)), (3, .ref (91))] [] n C (fun r => r = (gj_iv 2, n, C)) := by
  refine gj_aload_n d_La_parcels_0 rfl ?_
  refine gj_kc (v := 0) d_La_parcels_1 (by decide) ?_
  refine gj_aload_n d_La_parcels_2 rfl ?_
  refine gj_iload_n d_La_parcels_3 rfl ?_
  refine gj_iload_n d_La_parcels_4 rfl ?_
  refine gj_callV (as := [.int (a1), .int (a2)]) (rest := [.int 0, .ref 91]) (K1 := K) (N1 := N) d_La_parcels_5 mo_RB_parcels gw_474 gw_475 gw_476 o1 rfl pl_RB_parcels (Nat.le_of_ble_eq_true rfl) (Nat.le_of_ble_eq_true rfl) (by omega) (by omega) hG (fun E n2 C2 _ h => ?_) (fun v n2 C2 _ h => by cases h)
  cases h
  refine gj_xcatch (hpc := 17) (i := 4) (ln := 2) ⟨by decide, by decide, "java/util/NoSuchElementException", gw_379, Or.inr ⟨nc_IAE_NSE, ⟨by decide, by decide, "java/lang/IllegalArgumentException", gw_235, Or.inl ⟨gw_246, rfl⟩⟩⟩⟩ (Or.inr ⟨rfl, d_La_parcels_17⟩) (by decide) ?_
  refine gj_kc (v := 2) d_La_parcels_19 (by decide) ?_
  exact gj_iret rfl (by omega) (by omega) d_La_parcels_20 rfl
theorem h_parcels {d K N n n2 : Nat} {C : Nat → va_E} {a1 a2 : Int32} {v : Int32} {fs : List Value} {o : Nat → Int64} {R : (Nat → va_E) → Prop} (o1 : C 1 = .inr (0, fs)) (hG : gj_G md_RB_parcels d K N 0 0 0 [(0, .ref (1)), (1, .int (a1)), (2, .int (a2))] [] n C (fun r => r.1 = gj_iv v ∧ r.2.1 = n2 ∧ R r.2.2)) (h91 : ∀ C1, R C1 → C1 91 = .inl (1, 1, .inr (.inl o))) : gj_G md_La_parcels (d + 1) K N 0 0 0 [(0, .ref (1)), (1, .int (a1)), (2, .int (a2)), (3, .ref (91))] [] n C (fun r => r.1 = gj_iv 0 ∧ r.2.1 = n2 ∧ ∃ C1, R C1 ∧ r.2.2 = va_up C1 91 (.inl (1, 1, .inr (.inl (vp_updL o 0 v.toInt64))))) := by
  refine gj_aload_n d_La_parcels_0 rfl ?_
  refine gj_kc (v := 0) d_La_parcels_1 (by decide) ?_
  refine gj_aload_n d_La_parcels_2 rfl ?_
  refine gj_iload_n d_La_parcels_3 rfl ?_
  refine gj_iload_n d_La_parcels_4 rfl ?_
  refine gj_callV (as := [.int (a1), .int (a2)]) (rest := [.int 0, .ref 91]) (K1 := K) (N1 := N) d_La_parcels_5 mo_RB_parcels gw_474 gw_475 gw_476 o1 rfl pl_RB_parcels (Nat.le_of_ble_eq_true rfl) (Nat.le_of_ble_eq_true rfl) (by omega) (by omega) hG (fun E n2 C2 _ h => by obtain ⟨hv, -⟩ := h; exact nomatch hv) (fun v2 n3 C2 _ h => ?_)
  obtain ⟨hv, hn, hR⟩ := h
  dsimp only [gj_iv, gj_lv2] at hv hn
  cases hv
  subst hn
  refine gj_i2l d_La_parcels_8 ?_
  refine gj_last d_La_parcels_9 (h91 C2 hR) rfl (vp_in_nI (n := 0) (by omega) (by decide)) ?_
  refine gj_goto (tgt := 21) d_La_parcels_10 (by decide) ?_
  refine gj_kc (v := 0) d_La_parcels_21 (by decide) ?_
  exact gj_iret rfl (by omega) (by omega) d_La_parcels_22 ⟨rfl, rfl, C2, hR, rfl⟩
theorem h_contract_IAE {d K N n : Nat} {C : Nat → va_E} {a1 a2 a3 a4 : Int32} {fs : List Value} (o1 : C 1 = .inr (0, fs)) (hG : gj_G md_RB_contract d K N 0 0 0 [(0, .ref (1)), (1, .int (a1)), (2, .int (a2)), (3, .int (a3)), (4, .int (a4))] [] n C (fun r => r = (.inr "java/lang/IllegalArgumentException", n, C))) : gj_G md_La_contract (d + 1) K N 0 0 0 [(0, .ref (1)), (1, .int (a1)), (2, .int (a2)), (3, .int (a3)), (4, .int (a4)), (5, .ref (91))] [] n C (fun r => r = (gj_iv 1, n, C)) := by
  refine gj_aload d_La_contract_0 rfl ?_
  refine gj_kc (v := 0) d_La_contract_2 (by decide) ?_
  refine gj_aload_n d_La_contract_3 rfl ?_
  refine gj_iload_n d_La_contract_4 rfl ?_
  refine gj_iload_n d_La_contract_5 rfl ?_
  refine gj_iload_n d_La_contract_6 rfl ?_
  refine gj_iload d_La_contract_7 rfl ?_
  refine gj_callV (as := [.int (a1), .int (a2), .int (a3), .int (a4)]) (rest := [.int 0, .ref 91]) (K1 := K) (N1 := N) d_La_contract_9 mo_RB_contract gw_486 gw_487 gw_488 o1 rfl pl_RB_contract (Nat.le_of_ble_eq_true rfl) (Nat.le_of_ble_eq_true rfl) (by omega) (by omega) hG (fun E n2 C2 _ h => ?_) (fun v n2 C2 _ h => by cases h)
  cases h
  refine gj_xcatch (hpc := 17) (i := 6) (ln := 2) ⟨by decide, by decide, "java/lang/IllegalArgumentException", gw_235, Or.inl ⟨gw_246, rfl⟩⟩ (Or.inr ⟨rfl, d_La_contract_17⟩) (by decide) ?_
  refine gj_kc (v := 1) d_La_contract_19 (by decide) ?_
  exact gj_iret rfl (by omega) (by omega) d_La_contract_20 rfl
theorem h_contract_UOE {d K N n : Nat} {C : Nat → va_E} {a1 a2 a3 a4 : Int32} {fs : List Value} (o1 : C 1 = .inr (0, fs)) (hG : gj_G md_RB_contract d K N 0 0 0 [(0, .ref (1)), (1, .int (a1)), (2, .int (a2)), (3, .int (a3)), (4, .int (a4))] [] n C (fun r => r = (.inr "java/lang/UnsupportedOperationException", n, C))) : gj_G md_La_contract (d + 1) K N 0 0 0 [(0, .ref (1)), (1, .int (a1)), (2, .int (a2)), (3, .int (a3)), (4, .int (a4)), (5, .ref (91))] [] n C (fun r => r = (gj_iv 2, n, C)) := by
  refine gj_aload d_La_contract_0 rfl ?_
  refine gj_kc (v := 0) d_La_contract_2 (by decide) ?_
  refine gj_aload_n d_La_contract_3 rfl ?_
  refine gj_iload_n d_La_contract_4 rfl ?_
  refine gj_iload_n d_La_contract_5 rfl ?_
  refine gj_iload_n d_La_contract_6 rfl ?_
  refine gj_iload d_La_contract_7 rfl ?_
  refine gj_callV (as := [.int (a1), .int (a2), .int (a3), .int (a4)]) (rest := [.int 0, .ref 91]) (K1 := K) (N1 := N) d_La_contract_9 mo_RB_contract gw_486 gw_487 gw_488 o1 rfl pl_RB_contract (Nat.le_of_ble_eq_true rfl) (Nat.le_of_ble_eq_true rfl) (by omega) (by omega) hG (fun E n2 C2 _ h => ?_) (fun v n2 C2 _ h => by cases h)
  cases h
  refine gj_xcatch (hpc := 21) (i := 6) (ln := 2) ⟨by decide, by decide, "java/lang/IllegalArgumentException", gw_235, Or.inr ⟨nc_UOE_IAE, ⟨by decide, by decide, "java/lang/UnsupportedOperationException", gw_236, Or.inl ⟨gw_316, rfl⟩⟩⟩⟩ (Or.inr ⟨rfl, d_La_contract_21⟩) (by decide) ?_
  refine gj_kc (v := 2) d_La_contract_23 (by decide) ?_
  exact gj_iret rfl (by omega) (by omega) d_La_contract_24 rfl
theorem h_contract {d K N n n2 : Nat} {C : Nat → va_E} {a1 a2 a3 a4 : Int32} {v : Int32} {fs : List Value} {o : Nat → Int64} {R : (Nat → va_E) → Prop} (o1 : C 1 = .inr (0, fs)) (hG : gj_G md_RB_contract d K N 0 0 0 [(0, .ref (1)), (1, .int (a1)), (2, .int (a2)), (3, .int (a3)), (4, .int (a4))] [] n C (fun r => r.1 = gj_iv v ∧ r.2.1 = n2 ∧ R r.2.2)) (h91 : ∀ C1, R C1 → C1 91 = .inl (1, 1, .inr (.inl o))) : gj_G md_La_contract (d + 1) K N 0 0 0 [(0, .ref (1)), (1, .int (a1)), (2, .int (a2)), (3, .int (a3)), (4, .int (a4)), (5, .ref (91))] [] n C (fun r => r.1 = gj_iv 0 ∧ r.2.1 = n2 ∧ ∃ C1, R C1 ∧ r.2.2 = va_up C1 91 (.inl (1, 1, .inr (.inl (vp_updL o 0 v.toInt64))))) := by
  refine gj_aload d_La_contract_0 rfl ?_
  refine gj_kc (v := 0) d_La_contract_2 (by decide) ?_
  refine gj_aload_n d_La_contract_3 rfl ?_
  refine gj_iload_n d_La_contract_4 rfl ?_
  refine gj_iload_n d_La_contract_5 rfl ?_
  refine gj_iload_n d_La_contract_6 rfl ?_
  refine gj_iload d_La_contract_7 rfl ?_
  refine gj_callV (as := [.int (a1), .int (a2), .int (a3), .int (a4)]) (rest := [.int 0, .ref 91]) (K1 := K) (N1 := N) d_La_contract_9 mo_RB_contract gw_486 gw_487 gw_488 o1 rfl pl_RB_contract (Nat.le_of_ble_eq_true rfl) (Nat.le_of_ble_eq_true rfl) (by omega) (by omega) hG (fun E n2 C2 _ h => by obtain ⟨hv, -⟩ := h; exact nomatch hv) (fun v2 n3 C2 _ h => ?_)
  obtain ⟨hv, hn, hR⟩ := h
  dsimp only [gj_iv, gj_lv2] at hv hn
  cases hv
  subst hn
  refine gj_i2l d_La_contract_12 ?_
  refine gj_last d_La_contract_13 (h91 C2 hR) rfl (vp_in_nI (n := 0) (by omega) (by decide)) ?_
  refine gj_goto (tgt := 25) d_La_contract_14 (by decide) ?_
  refine gj_kc (v := 0) d_La_contract_25 (by decide) ?_
  exact gj_iret rfl (by omega) (by omega) d_La_contract_26 ⟨rfl, rfl, C2, hR, rfl⟩
theorem h_book_NSE {d K N n : Nat} {C : Nat → va_E} {a1 a2 : Int32} {fs : List Value} (o1 : C 1 = .inr (0, fs)) (hG : gj_G md_RB_book d K N 0 0 0 [(0, .ref (1)), (1, .int (a1)), (2, .int (a2))] [] n C (fun r => r = (.inr "java/util/NoSuchElementException", n, C))) : gj_G md_La_book (d + 1) K N 0 0 0 [(0, .ref (1)), (1, .int (a1)), (2, .int (a2)), (3, .ref (91))] [] n C (fun r => r = (gj_iv 1, n, C)) := by
  refine gj_aload_n d_La_book_0 rfl ?_
  refine gj_kc (v := 0) d_La_book_1 (by decide) ?_
  refine gj_aload_n d_La_book_2 rfl ?_
  refine gj_iload_n d_La_book_3 rfl ?_
  refine gj_iload_n d_La_book_4 rfl ?_
  refine gj_callV (as := [.int (a1), .int (a2)]) (rest := [.int 0, .ref 91]) (K1 := K) (N1 := N) d_La_book_5 mo_RB_book gw_510 gw_511 gw_512 o1 rfl pl_RB_book (Nat.le_of_ble_eq_true rfl) (Nat.le_of_ble_eq_true rfl) (by omega) (by omega) hG (fun E n2 C2 _ h => ?_) (fun v n2 C2 _ h => by cases h)
  cases h
  refine gj_xcatch (hpc := 13) (i := 4) (ln := 2) ⟨by decide, by decide, "java/util/NoSuchElementException", gw_379, Or.inl ⟨gw_391, rfl⟩⟩ (Or.inr ⟨rfl, d_La_book_13⟩) (by decide) ?_
  refine gj_kc (v := 1) d_La_book_15 (by decide) ?_
  exact gj_iret rfl (by omega) (by omega) d_La_book_16 rfl
theorem h_book_IAE {d K N n : Nat} {C : Nat → va_E} {a1 a2 : Int32} {fs : List Value} (o1 : C 1 = .inr (0, fs)) (hG : gj_G md_RB_book d K N 0 0 0 [(0, .ref (1)), (1, .int (a1)), (2, .int (a2))] [] n C (fun r => r = (.inr "java/lang/IllegalArgumentException", n, C))) : gj_G md_La_book (d + 1) K N 0 0 0 [(0, .ref (1)), (1, .int (a1)), (2, .int (a2)), (3, .ref (91))] [] n C (fun r => r = (gj_iv 2, n, C)) := by
  refine gj_aload_n d_La_book_0 rfl ?_
  refine gj_kc (v := 0) d_La_book_1 (by decide) ?_
  refine gj_aload_n d_La_book_2 rfl ?_
  refine gj_iload_n d_La_book_3 rfl ?_
  refine gj_iload_n d_La_book_4 rfl ?_
  refine gj_callV (as := [.int (a1), .int (a2)]) (rest := [.int 0, .ref 91]) (K1 := K) (N1 := N) d_La_book_5 mo_RB_book gw_510 gw_511 gw_512 o1 rfl pl_RB_book (Nat.le_of_ble_eq_true rfl) (Nat.le_of_ble_eq_true rfl) (by omega) (by omega) hG (fun E n2 C2 _ h => ?_) (fun v n2 C2 _ h => by cases h)
  cases h
  refine gj_xcatch (hpc := 17) (i := 4) (ln := 2) ⟨by decide, by decide, "java/util/NoSuchElementException", gw_379, Or.inr ⟨nc_IAE_NSE, ⟨by decide, by decide, "java/lang/IllegalArgumentException", gw_235, Or.inl ⟨gw_246, rfl⟩⟩⟩⟩ (Or.inr ⟨rfl, d_La_book_17⟩) (by decide) ?_
  refine gj_kc (v := 2) d_La_book_19 (by decide) ?_
  exact gj_iret rfl (by omega) (by omega) d_La_book_20 rfl
theorem h_book_ISE {d K N n : Nat} {C : Nat → va_E} {a1 a2 : Int32} {fs : List Value} (o1 : C 1 = .inr (0, fs)) (hG : gj_G md_RB_book d K N 0 0 0 [(0, .ref (1)), (1, .int (a1)), (2, .int (a2))] [] n C (fun r => r = (.inr "java/lang/IllegalStateException", n, C))) : gj_G md_La_book (d + 1) K N 0 0 0 [(0, .ref (1)), (1, .int (a1)), (2, .int (a2)), (3, .ref (91))] [] n C (fun r => r = (gj_iv 3, n, C)) := by
  refine gj_aload_n d_La_book_0 rfl ?_
  refine gj_kc (v := 0) d_La_book_1 (by decide) ?_
  refine gj_aload_n d_La_book_2 rfl ?_
  refine gj_iload_n d_La_book_3 rfl ?_
  refine gj_iload_n d_La_book_4 rfl ?_
  refine gj_callV (as := [.int (a1), .int (a2)]) (rest := [.int 0, .ref 91]) (K1 := K) (N1 := N) d_La_book_5 mo_RB_book gw_510 gw_511 gw_512 o1 rfl pl_RB_book (Nat.le_of_ble_eq_true rfl) (Nat.le_of_ble_eq_true rfl) (by omega) (by omega) hG (fun E n2 C2 _ h => ?_) (fun v n2 C2 _ h => by cases h)
  cases h
  refine gj_xcatch (hpc := 21) (i := 4) (ln := 2) ⟨by decide, by decide, "java/util/NoSuchElementException", gw_379, Or.inr ⟨nc_ISE_NSE, ⟨by decide, by decide, "java/lang/IllegalArgumentException", gw_235, Or.inr ⟨nc_ISE_IAE, ⟨by decide, by decide, "java/lang/IllegalStateException", gw_509, Or.inl ⟨gw_516, rfl⟩⟩⟩⟩⟩⟩ (Or.inr ⟨rfl, d_La_book_21⟩) (by decide) ?_
  refine gj_kc (v := 3) d_La_book_23 (by decide) ?_
  exact gj_iret rfl (by omega) (by omega) d_La_book_24 rfl
theorem h_book_AE {d K N n : Nat} {C : Nat → va_E} {a1 a2 : Int32} {fs : List Value} (o1 : C 1 = .inr (0, fs)) (hG : gj_G md_RB_book d K N 0 0 0 [(0, .ref (1)), (1, .int (a1)), (2, .int (a2))] [] n C (fun r => r = (.inr "java/lang/ArithmeticException", n, C))) : gj_G md_La_book (d + 1) K N 0 0 0 [(0, .ref (1)), (1, .int (a1)), (2, .int (a2)), (3, .ref (91))] [] n C (fun r => r = (gj_iv 4, n, C)) := by
  refine gj_aload_n d_La_book_0 rfl ?_
  refine gj_kc (v := 0) d_La_book_1 (by decide) ?_
  refine gj_aload_n d_La_book_2 rfl ?_
  refine gj_iload_n d_La_book_3 rfl ?_
  refine gj_iload_n d_La_book_4 rfl ?_
  refine gj_callV (as := [.int (a1), .int (a2)]) (rest := [.int 0, .ref 91]) (K1 := K) (N1 := N) d_La_book_5 mo_RB_book gw_510 gw_511 gw_512 o1 rfl pl_RB_book (Nat.le_of_ble_eq_true rfl) (Nat.le_of_ble_eq_true rfl) (by omega) (by omega) hG (fun E n2 C2 _ h => ?_) (fun v n2 C2 _ h => by cases h)
  cases h
  refine gj_xcatch (hpc := 25) (i := 4) (ln := 2) ⟨by decide, by decide, "java/util/NoSuchElementException", gw_379, Or.inr ⟨nc_AE_NSE, ⟨by decide, by decide, "java/lang/IllegalArgumentException", gw_235, Or.inr ⟨nc_AE_IAE, ⟨by decide, by decide, "java/lang/IllegalStateException", gw_509, Or.inr ⟨nc_AE_ISE, ⟨by decide, by decide, "java/lang/ArithmeticException", gw_380, Or.inl ⟨gw_421, rfl⟩⟩⟩⟩⟩⟩⟩⟩ (Or.inr ⟨rfl, d_La_book_25⟩) (by decide) ?_
  refine gj_kc (v := 4) d_La_book_27 (by decide) ?_
  exact gj_iret rfl (by omega) (by omega) d_La_book_28 rfl
theorem h_book {d K N n n2 : Nat} {C : Nat → va_E} {a1 a2 : Int32} {v : Int32} {fs : List Value} {o : Nat → Int64} {R : (Nat → va_E) → Prop} (o1 : C 1 = .inr (0, fs)) (hG : gj_G md_RB_book d K N 0 0 0 [(0, .ref (1)), (1, .int (a1)), (2, .int (a2))] [] n C (fun r => r.1 = gj_iv v ∧ r.2.1 = n2 ∧ R r.2.2)) (h91 : ∀ C1, R C1 → C1 91 = .inl (1, 1, .inr (.inl o))) : gj_G md_La_book (d + 1) K N 0 0 0 [(0, .ref (1)), (1, .int (a1)), (2, .int (a2)), (3, .ref (91))] [] n C (fun r => r.1 = gj_iv 0 ∧ r.2.1 = n2 ∧ ∃ C1, R C1 ∧ r.2.2 = va_up C1 91 (.inl (1, 1, .inr (.inl (vp_updL o 0 v.toInt64))))) := by
  refine gj_aload_n d_La_book_0 rfl ?_
  refine gj_kc (v := 0) d_La_book_1 (by decide) ?_
  refine gj_aload_n d_La_book_2 rfl ?_
  refine gj_iload_n d_La_book_3 rfl ?_
  refine gj_iload_n d_La_book_4 rfl ?_
  refine gj_callV (as := [.int (a1), .int (a2)]) (rest := [.int 0, .ref 91]) (K1 := K) (N1 := N) d_La_book_5 mo_RB_book gw_510 gw_511 gw_512 o1 rfl pl_RB_book (Nat.le_of_ble_eq_true rfl) (Nat.le_of_ble_eq_true rfl) (by omega) (by omega) hG (fun E n2 C2 _ h => by obtain ⟨hv, -⟩ := h; exact nomatch hv) (fun v2 n3 C2 _ h => ?_)
  obtain ⟨hv, hn, hR⟩ := h
  dsimp only [gj_iv, gj_lv2] at hv hn
  cases hv
  subst hn
  refine gj_i2l d_La_book_8 ?_
  refine gj_last d_La_book_9 (h91 C2 hR) rfl (vp_in_nI (n := 0) (by omega) (by decide)) ?_
  refine gj_goto (tgt := 29) d_La_book_10 (by decide) ?_
  refine gj_kc (v := 0) d_La_book_29 (by decide) ?_
  exact gj_iret rfl (by omega) (by omega) d_La_book_30 ⟨rfl, rfl, C2, hR, rfl⟩
theorem h_combine_NSE {d K N n : Nat} {C : Nat → va_E} {a1 a2 : Int32} {fs : List Value} (o1 : C 1 = .inr (0, fs)) (hG : gj_G md_RB_combine d K N 0 0 0 [(0, .ref (1)), (1, .int (a1)), (2, .int (a2))] [] n C (fun r => r = (.inr "java/util/NoSuchElementException", n, C))) : gj_G md_La_combine (d + 1) K N 0 0 0 [(0, .ref (1)), (1, .int (a1)), (2, .int (a2)), (3, .ref (91))] [] n C (fun r => r = (gj_iv 1, n, C)) := by
  refine gj_aload_n d_La_combine_0 rfl ?_
  refine gj_kc (v := 0) d_La_combine_1 (by decide) ?_
  refine gj_aload_n d_La_combine_2 rfl ?_
  refine gj_iload_n d_La_combine_3 rfl ?_
  refine gj_iload_n d_La_combine_4 rfl ?_
  refine gj_callV (as := [.int (a1), .int (a2)]) (rest := [.int 0, .ref 91]) (K1 := K) (N1 := N) d_La_combine_5 mo_RB_combine gw_534 gw_535 gw_536 o1 rfl pl_RB_combine (Nat.le_of_ble_eq_true rfl) (Nat.le_of_ble_eq_true rfl) (by omega) (by omega) hG (fun E n2 C2 _ h => ?_) (fun v n2 C2 _ h => by cases h)
  cases h
  refine gj_xcatch (hpc := 13) (i := 4) (ln := 2) ⟨by decide, by decide, "java/util/NoSuchElementException", gw_379, Or.inl ⟨gw_391, rfl⟩⟩ (Or.inr ⟨rfl, d_La_combine_13⟩) (by decide) ?_
  refine gj_kc (v := 1) d_La_combine_15 (by decide) ?_
  exact gj_iret rfl (by omega) (by omega) d_La_combine_16 rfl
theorem h_combine_ISE {d K N n : Nat} {C : Nat → va_E} {a1 a2 : Int32} {fs : List Value} (o1 : C 1 = .inr (0, fs)) (hG : gj_G md_RB_combine d K N 0 0 0 [(0, .ref (1)), (1, .int (a1)), (2, .int (a2))] [] n C (fun r => r = (.inr "java/lang/IllegalStateException", n, C))) : gj_G md_La_combine (d + 1) K N 0 0 0 [(0, .ref (1)), (1, .int (a1)), (2, .int (a2)), (3, .ref (91))] [] n C (fun r => r = (gj_iv 2, n, C)) := by
  refine gj_aload_n d_La_combine_0 rfl ?_
  refine gj_kc (v := 0) d_La_combine_1 (by decide) ?_
  refine gj_aload_n d_La_combine_2 rfl ?_
  refine gj_iload_n d_La_combine_3 rfl ?_
  refine gj_iload_n d_La_combine_4 rfl ?_
  refine gj_callV (as := [.int (a1), .int (a2)]) (rest := [.int 0, .ref 91]) (K1 := K) (N1 := N) d_La_combine_5 mo_RB_combine gw_534 gw_535 gw_536 o1 rfl pl_RB_combine (Nat.le_of_ble_eq_true rfl) (Nat.le_of_ble_eq_true rfl) (by omega) (by omega) hG (fun E n2 C2 _ h => ?_) (fun v n2 C2 _ h => by cases h)
  cases h
  refine gj_xcatch (hpc := 17) (i := 4) (ln := 2) ⟨by decide, by decide, "java/util/NoSuchElementException", gw_379, Or.inr ⟨nc_ISE_NSE, ⟨by decide, by decide, "java/lang/IllegalStateException", gw_509, Or.inl ⟨gw_516, rfl⟩⟩⟩⟩ (Or.inr ⟨rfl, d_La_combine_17⟩) (by decide) ?_
  refine gj_kc (v := 2) d_La_combine_19 (by decide) ?_
  exact gj_iret rfl (by omega) (by omega) d_La_combine_20 rfl
theorem h_combine {d K N n n2 : Nat} {C : Nat → va_E} {a1 a2 : Int32} {v : Int32} {fs : List Value} {o : Nat → Int64} {R : (Nat → va_E) → Prop} (o1 : C 1 = .inr (0, fs)) (hG : gj_G md_RB_combine d K N 0 0 0 [(0, .ref (1)), (1, .int (a1)), (2, .int (a2))] [] n C (fun r => r.1 = gj_iv v ∧ r.2.1 = n2 ∧ R r.2.2)) (h91 : ∀ C1, R C1 → C1 91 = .inl (1, 1, .inr (.inl o))) : gj_G md_La_combine (d + 1) K N 0 0 0 [(0, .ref (1)), (1, .int (a1)), (2, .int (a2)), (3, .ref (91))] [] n C (fun r => r.1 = gj_iv 0 ∧ r.2.1 = n2 ∧ ∃ C1, R C1 ∧ r.2.2 = va_up C1 91 (.inl (1, 1, .inr (.inl (vp_updL o 0 v.toInt64))))) := by
  refine gj_aload_n d_La_combine_0 rfl ?_
  refine gj_kc (v := 0) d_La_combine_1 (by decide) ?_
  refine gj_aload_n d_La_combine_2 rfl ?_
  refine gj_iload_n d_La_combine_3 rfl ?_
  refine gj_iload_n d_La_combine_4 rfl ?_
  refine gj_callV (as := [.int (a1), .int (a2)]) (rest := [.int 0, .ref 91]) (K1 := K) (N1 := N) d_La_combine_5 mo_RB_combine gw_534 gw_535 gw_536 o1 rfl pl_RB_combine (Nat.le_of_ble_eq_true rfl) (Nat.le_of_ble_eq_true rfl) (by omega) (by omega) hG (fun E n2 C2 _ h => by obtain ⟨hv, -⟩ := h; exact nomatch hv) (fun v2 n3 C2 _ h => ?_)
  obtain ⟨hv, hn, hR⟩ := h
  dsimp only [gj_iv, gj_lv2] at hv hn
  cases hv
  subst hn
  refine gj_i2l d_La_combine_8 ?_
  refine gj_last d_La_combine_9 (h91 C2 hR) rfl (vp_in_nI (n := 0) (by omega) (by decide)) ?_
  refine gj_goto (tgt := 21) d_La_combine_10 (by decide) ?_
  refine gj_kc (v := 0) d_La_combine_21 (by decide) ?_
  exact gj_iret rfl (by omega) (by omega) d_La_combine_22 ⟨rfl, rfl, C2, hR, rfl⟩
theorem h_invoice_NSE {d K N n : Nat} {C : Nat → va_E} {a1 a2 : Int32} {fs : List Value} (o1 : C 1 = .inr (0, fs)) (hG : gj_G md_RB_invoice d K N 0 0 0 [(0, .ref (1)), (1, .int (a1)), (2, .int (a2))] [] n C (fun r => r = (.inr "java/util/NoSuchElementException", n, C))) : gj_G md_La_invoice (d + 1) K N 0 0 0 [(0, .ref (1)), (1, .int (a1)), (2, .int (a2)), (3, .ref (91))] [] n C (fun r => r = (gj_iv 1, n, C)) := by
  refine gj_aload_n d_La_invoice_0 rfl ?_
  refine gj_kc (v := 0) d_La_invoice_1 (by decide) ?_
  refine gj_aload_n d_La_invoice_2 rfl ?_
  refine gj_iload_n d_La_invoice_3 rfl ?_
  refine gj_iload_n d_La_invoice_4 rfl ?_
  refine gj_callV (as := [.int (a1), .int (a2)]) (rest := [.int 0, .ref 91]) (K1 := K) (N1 := N) d_La_invoice_5 mo_RB_invoice gw_545 gw_546 gw_547 o1 rfl pl_RB_invoice (Nat.le_of_ble_eq_true rfl) (Nat.le_of_ble_eq_true rfl) (by omega) (by omega) hG (fun E n2 C2 _ h => ?_) (fun v n2 C2 _ h => by cases h)
  cases h
  refine gj_xcatch (hpc := 13) (i := 4) (ln := 2) ⟨by decide, by decide, "java/util/NoSuchElementException", gw_379, Or.inl ⟨gw_391, rfl⟩⟩ (Or.inr ⟨rfl, d_La_invoice_13⟩) (by decide) ?_
  refine gj_kc (v := 1) d_La_invoice_15 (by decide) ?_
  exact gj_iret rfl (by omega) (by omega) d_La_invoice_16 rfl
theorem h_invoice_IAE {d K N n : Nat} {C : Nat → va_E} {a1 a2 : Int32} {fs : List Value} (o1 : C 1 = .inr (0, fs)) (hG : gj_G md_RB_invoice d K N 0 0 0 [(0, .ref (1)), (1, .int (a1)), (2, .int (a2))] [] n C (fun r => r = (.inr "java/lang/IllegalArgumentException", n, C))) : gj_G md_La_invoice (d + 1) K N 0 0 0 [(0, .ref (1)), (1, .int (a1)), (2, .int (a2)), (3, .ref (91))] [] n C (fun r => r = (gj_iv 2, n, C)) := by
  refine gj_aload_n d_La_invoice_0 rfl ?_
  refine gj_kc (v := 0) d_La_invoice_1 (by decide) ?_
  refine gj_aload_n d_La_invoice_2 rfl ?_
  refine gj_iload_n d_La_invoice_3 rfl ?_
  refine gj_iload_n d_La_invoice_4 rfl ?_
  refine gj_callV (as := [.int (a1), .int (a2)]) (rest := [.int 0, .ref 91]) (K1 := K) (N1 := N) d_La_invoice_5 mo_RB_invoice gw_545 gw_546 gw_547 o1 rfl pl_RB_invoice (Nat.le_of_ble_eq_true rfl) (Nat.le_of_ble_eq_true rfl) (by omega) (by omega) hG (fun E n2 C2 _ h => ?_) (fun v n2 C2 _ h => by cases h)
  cases h
  refine gj_xcatch (hpc := 17) (i := 4) (ln := 2) ⟨by decide, by decide, "java/util/NoSuchElementException", gw_379, Or.inr ⟨nc_IAE_NSE, ⟨by decide, by decide, "java/lang/IllegalArgumentException", gw_235, Or.inl ⟨gw_246, rfl⟩⟩⟩⟩ (Or.inr ⟨rfl, d_La_invoice_17⟩) (by decide) ?_
  refine gj_kc (v := 2) d_La_invoice_19 (by decide) ?_
  exact gj_iret rfl (by omega) (by omega) d_La_invoice_20 rfl
theorem h_invoice_ISE {d K N n : Nat} {C : Nat → va_E} {a1 a2 : Int32} {fs : List Value} (o1 : C 1 = .inr (0, fs)) (hG : gj_G md_RB_invoice d K N 0 0 0 [(0, .ref (1)), (1, .int (a1)), (2, .int (a2))] [] n C (fun r => r = (.inr "java/lang/IllegalStateException", n, C))) : gj_G md_La_invoice (d + 1) K N 0 0 0 [(0, .ref (1)), (1, .int (a1)), (2, .int (a2)), (3, .ref (91))] [] n C (fun r => r = (gj_iv 3, n, C)) := by
  refine gj_aload_n d_La_invoice_0 rfl ?_
  refine gj_kc (v := 0) d_La_invoice_1 (by decide) ?_
  refine gj_aload_n d_La_invoice_2 rfl ?_
  refine gj_iload_n d_La_invoice_3 rfl ?_
  refine gj_iload_n d_La_invoice_4 rfl ?_
  refine gj_callV (as := [.int (a1), .int (a2)]) (rest := [.int 0, .ref 91]) (K1 := K) (N1 := N) d_La_invoice_5 mo_RB_invoice gw_545 gw_546 gw_547 o1 rfl pl_RB_invoice (Nat.le_of_ble_eq_true rfl) (Nat.le_of_ble_eq_true rfl) (by omega) (by omega) hG (fun E n2 C2 _ h => ?_) (fun v n2 C2 _ h => by cases h)
  cases h
  refine gj_xcatch (hpc := 21) (i := 4) (ln := 2) ⟨by decide, by decide, "java/util/NoSuchElementException", gw_379, Or.inr ⟨nc_ISE_NSE, ⟨by decide, by decide, "java/lang/IllegalArgumentException", gw_235, Or.inr ⟨nc_ISE_IAE, ⟨by decide, by decide, "java/lang/IllegalStateException", gw_509, Or.inl ⟨gw_516, rfl⟩⟩⟩⟩⟩⟩ (Or.inr ⟨rfl, d_La_invoice_21⟩) (by decide) ?_
  refine gj_kc (v := 3) d_La_invoice_23 (by decide) ?_
  exact gj_iret rfl (by omega) (by omega) d_La_invoice_24 rfl
theorem h_invoice {d K N n n2 : Nat} {C : Nat → va_E} {a1 a2 : Int32} {v : Int32} {fs : List Value} {o : Nat → Int64} {R : (Nat → va_E) → Prop} (o1 : C 1 = .inr (0, fs)) (hG : gj_G md_RB_invoice d K N 0 0 0 [(0, .ref (1)), (1, .int (a1)), (2, .int (a2))] [] n C (fun r => r.1 = gj_iv v ∧ r.2.1 = n2 ∧ R r.2.2)) (h91 : ∀ C1, R C1 → C1 91 = .inl (1, 1, .inr (.inl o))) : gj_G md_La_invoice (d + 1) K N 0 0 0 [(0, .ref (1)), (1, .int (a1)), (2, .int (a2)), (3, .ref (91))] [] n C (fun r => r.1 = gj_iv 0 ∧ r.2.1 = n2 ∧ ∃ C1, R C1 ∧ r.2.2 = va_up C1 91 (.inl (1, 1, .inr (.inl (vp_updL o 0 v.toInt64))))) := by
  refine gj_aload_n d_La_invoice_0 rfl ?_
  refine gj_kc (v := 0) d_La_invoice_1 (by decide) ?_
  refine gj_aload_n d_La_invoice_2 rfl ?_
  refine gj_iload_n d_La_invoice_3 rfl ?_
  refine gj_iload_n d_La_invoice_4 rfl ?_
  refine gj_callV (as := [.int (a1), .int (a2)]) (rest := [.int 0, .ref 91]) (K1 := K) (N1 := N) d_La_invoice_5 mo_RB_invoice gw_545 gw_546 gw_547 o1 rfl pl_RB_invoice (Nat.le_of_ble_eq_true rfl) (Nat.le_of_ble_eq_true rfl) (by omega) (by omega) hG (fun E n2 C2 _ h => by obtain ⟨hv, -⟩ := h; exact nomatch hv) (fun v2 n3 C2 _ h => ?_)
  obtain ⟨hv, hn, hR⟩ := h
  dsimp only [gj_iv, gj_lv2] at hv hn
  cases hv
  subst hn
  refine gj_i2l d_La_invoice_8 ?_
  refine gj_last d_La_invoice_9 (h91 C2 hR) rfl (vp_in_nI (n := 0) (by omega) (by decide)) ?_
  refine gj_goto (tgt := 25) d_La_invoice_10 (by decide) ?_
  refine gj_kc (v := 0) d_La_invoice_25 (by decide) ?_
  exact gj_iret rfl (by omega) (by omega) d_La_invoice_26 ⟨rfl, rfl, C2, hR, rfl⟩
theorem h_refund_NSE {d K N n : Nat} {C : Nat → va_E} {a1 a2 : Int32} {fs : List Value} (o1 : C 1 = .inr (0, fs)) (hG : gj_G md_RB_refund d K N 0 0 0 [(0, .ref (1)), (1, .int (a1)), (2, .int (a2))] [] n C (fun r => r = (.inr "java/util/NoSuchElementException", n, C))) : gj_G md_La_refund (d + 1) K N 0 0 0 [(0, .ref (1)), (1, .int (a1)), (2, .int (a2)), (3, .ref (91))] [] n C (fun r => r = (gj_iv 1, n, C)) := by
  refine gj_aload_n d_La_refund_0 rfl ?_
  refine gj_kc (v := 0) d_La_refund_1 (by decide) ?_
  refine gj_aload_n d_La_refund_2 rfl ?_
  refine gj_iload_n d_La_refund_3 rfl ?_
  refine gj_iload_n d_La_refund_4 rfl ?_
  refine gj_callV (as := [.int (a1), .int (a2)]) (rest := [.int 0, .ref 91]) (K1 := K) (N1 := N) d_La_refund_5 mo_RB_refund gw_554 gw_555 gw_556 o1 rfl pl_RB_refund (Nat.le_of_ble_eq_true rfl) (Nat.le_of_ble_eq_true rfl) (by omega) (by omega) hG (fun E n2 C2 _ h => ?_) (fun v n2 C2 _ h => by cases h)
  cases h
  refine gj_xcatch (hpc := 13) (i := 4) (ln := 2) ⟨by decide, by decide, "java/util/NoSuchElementException", gw_379, Or.inl ⟨gw_391, rfl⟩⟩ (Or.inr ⟨rfl, d_La_refund_13⟩) (by decide) ?_
  refine gj_kc (v := 1) d_La_refund_15 (by decide) ?_
  exact gj_iret rfl (by omega) (by omega) d_La_refund_16 rfl
theorem h_refund_IAE {d K N n : Nat} {C : Nat → va_E} {a1 a2 : Int32} {fs : List Value} (o1 : C 1 = .inr (0, fs)) (hG : gj_G md_RB_refund d K N 0 0 0 [(0, .ref (1)), (1, .int (a1)), (2, .int (a2))] [] n C (fun r => r = (.inr "java/lang/IllegalArgumentException", n, C))) : gj_G md_La_refund (d + 1) K N 0 0 0 [(0, .ref (1)), (1, .int (a1)), (2, .int (a2)), (3, .ref (91))] [] n C (fun r => r = (gj_iv 2, n, C)) := by
  refine gj_aload_n d_La_refund_0 rfl ?_
  refine gj_kc (v := 0) d_La_refund_1 (by decide) ?_
  refine gj_aload_n d_La_refund_2 rfl ?_
  refine gj_iload_n d_La_refund_3 rfl ?_
  refine gj_iload_n d_La_refund_4 rfl ?_
  refine gj_callV (as := [.int (a1), .int (a2)]) (rest := [.int 0, .ref 91]) (K1 := K) (N1 := N) d_La_refund_5 mo_RB_refund gw_554 gw_555 gw_556 o1 rfl pl_RB_refund (Nat.le_of_ble_eq_true rfl) (Nat.le_of_ble_eq_true rfl) (by omega) (by omega) hG (fun E n2 C2 _ h => ?_) (fun v n2 C2 _ h => by cases h)
  cases h
  refine gj_xcatch (hpc := 17) (i := 4) (ln := 2) ⟨by decide, by decide, "java/util/NoSuchElementException", gw_379, Or.inr ⟨nc_IAE_NSE, ⟨by decide, by decide, "java/lang/IllegalArgumentException", gw_235, Or.inl ⟨gw_246, rfl⟩⟩⟩⟩ (Or.inr ⟨rfl, d_La_refund_17⟩) (by decide) ?_
  refine gj_kc (v := 2) d_La_refund_19 (by decide) ?_
  exact gj_iret rfl (by omega) (by omega) d_La_refund_20 rfl
theorem h_refund_ISE {d K N n : Nat} {C : Nat → va_E} {a1 a2 : Int32} {fs : List Value} (o1 : C 1 = .inr (0, fs)) (hG : gj_G md_RB_refund d K N 0 0 0 [(0, .ref (1)), (1, .int (a1)), (2, .int (a2))] [] n C (fun r => r = (.inr "java/lang/IllegalStateException", n, C))) : gj_G md_La_refund (d + 1) K N 0 0 0 [(0, .ref (1)), (1, .int (a1)), (2, .int (a2)), (3, .ref (91))] [] n C (fun r => r = (gj_iv 3, n, C)) := by
  refine gj_aload_n d_La_refund_0 rfl ?_
  refine gj_kc (v := 0) d_La_refund_1 (by decide) ?_
  refine gj_aload_n d_La_refund_2 rfl ?_
  refine gj_iload_n d_La_refund_3 rfl ?_
  refine gj_iload_n d_La_refund_4 rfl ?_
  refine gj_callV (as := [.int (a1), .int (a2)]) (rest := [.int 0, .ref 91]) (K1 := K) (N1 := N) d_La_refund_5 mo_RB_refund gw_554 gw_555 gw_556 o1 rfl pl_RB_refund (Nat.le_of_ble_eq_true rfl) (Nat.le_of_ble_eq_true rfl) (by omega) (by omega) hG (fun E n2 C2 _ h => ?_) (fun v n2 C2 _ h => by cases h)
  cases h
  refine gj_xcatch (hpc := 21) (i := 4) (ln := 2) ⟨by decide, by decide, "java/util/NoSuchElementException", gw_379, Or.inr ⟨nc_ISE_NSE, ⟨by decide, by decide, "java/lang/IllegalArgumentException", gw_235, Or.inr ⟨nc_ISE_IAE, ⟨by decide, by decide, "java/lang/IllegalStateException", gw_509, Or.inl ⟨gw_516, rfl⟩⟩⟩⟩⟩⟩ (Or.inr ⟨rfl, d_La_refund_21⟩) (by decide) ?_
  refine gj_kc (v := 3) d_La_refund_23 (by decide) ?_
  exact gj_iret rfl (by omega) (by omega) d_La_refund_24 rfl
theorem h_refund {d K N n n2 : Nat} {C : Nat → va_E} {a1 a2 : Int32} {v : Int32} {fs : List Value} {o : Nat → Int64} {R : (Nat → va_E) → Prop} (o1 : C 1 = .inr (0, fs)) (hG : gj_G md_RB_refund d K N 0 0 0 [(0, .ref (1)), (1, .int (a1)), (2, .int (a2))] [] n C (fun r => r.1 = gj_iv v ∧ r.2.1 = n2 ∧ R r.2.2)) (h91 : ∀ C1, R C1 → C1 91 = .inl (1, 1, .inr (.inl o))) : gj_G md_La_refund (d + 1) K N 0 0 0 [(0, .ref (1)), (1, .int (a1)), (2, .int (a2)), (3, .ref (91))] [] n C (fun r => r.1 = gj_iv 0 ∧ r.2.1 = n2 ∧ ∃ C1, R C1 ∧ r.2.2 = va_up C1 91 (.inl (1, 1, .inr (.inl (vp_updL o 0 v.toInt64))))) := by
  refine gj_aload_n d_La_refund_0 rfl ?_
  refine gj_kc (v := 0) d_La_refund_1 (by decide) ?_
  refine gj_aload_n d_La_refund_2 rfl ?_
  refine gj_iload_n d_La_refund_3 rfl ?_
  refine gj_iload_n d_La_refund_4 rfl ?_
  refine gj_callV (as := [.int (a1), .int (a2)]) (rest := [.int 0, .ref 91]) (K1 := K) (N1 := N) d_La_refund_5 mo_RB_refund gw_554 gw_555 gw_556 o1 rfl pl_RB_refund (Nat.le_of_ble_eq_true rfl) (Nat.le_of_ble_eq_true rfl) (by omega) (by omega) hG (fun E n2 C2 _ h => by obtain ⟨hv, -⟩ := h; exact nomatch hv) (fun v2 n3 C2 _ h => ?_)
  obtain ⟨hv, hn, hR⟩ := h
  dsimp only [gj_iv, gj_lv2] at hv hn
  cases hv
  subst hn
  refine gj_i2l d_La_refund_8 ?_
  refine gj_last d_La_refund_9 (h91 C2 hR) rfl (vp_in_nI (n := 0) (by omega) (by decide)) ?_
  refine gj_goto (tgt := 25) d_La_refund_10 (by decide) ?_
  refine gj_kc (v := 0) d_La_refund_25 (by decide) ?_
  exact gj_iret rfl (by omega) (by omega) d_La_refund_26 ⟨rfl, rfl, C2, hR, rfl⟩
theorem h_differ_IAE {d K N n : Nat} {C : Nat → va_E} {a1 : Int32} {fs : List Value} (o1 : C 1 = .inr (0, fs)) (hG : gj_G md_RB_differ d K N 0 0 0 [(0, .ref (1)), (1, .int (a1))] [] n C (fun r => r = (.inr "java/lang/IllegalArgumentException", n, C))) : gj_G md_La_differ (d + 1) K N 0 0 0 [(0, .ref (1)), (1, .int (a1)), (2, .ref (91))] [] n C (fun r => r = (gj_iv 1, n, C)) := by
  refine gj_aload_n d_La_differ_0 rfl ?_
  refine gj_kc (v := 0) d_La_differ_1 (by decide) ?_
  refine gj_aload_n d_La_differ_2 rfl ?_
  refine gj_iload_n d_La_differ_3 rfl ?_
  refine gj_callV (as := [.int (a1)]) (rest := [.int 0, .ref 91]) (K1 := K) (N1 := N) d_La_differ_4 mo_RB_differ gw_562 gw_563 gw_564 o1 rfl pl_RB_differ (Nat.le_of_ble_eq_true rfl) (Nat.le_of_ble_eq_true rfl) (by omega) (by omega) hG (fun E n2 C2 _ h => ?_) (fun v n2 C2 _ h => by cases h)
  cases h
  refine gj_xcatch (hpc := 12) (i := 3) (ln := 1) ⟨by decide, by decide, "java/lang/IllegalArgumentException", gw_235, Or.inl ⟨gw_246, rfl⟩⟩ (Or.inl ⟨3, rfl, rfl, d_La_differ_12⟩) (by decide) ?_
  refine gj_kc (v := 1) d_La_differ_13 (by decide) ?_
  exact gj_iret rfl (by omega) (by omega) d_La_differ_14 rfl
theorem h_differ {d K N n n2 : Nat} {C : Nat → va_E} {a1 : Int32} {v : Int32} {fs : List Value} {o : Nat → Int64} {R : (Nat → va_E) → Prop} (o1 : C 1 = .inr (0, fs)) (hG : gj_G md_RB_differ d K N 0 0 0 [(0, .ref (1)), (1, .int (a1))] [] n C (fun r => r.1 = gj_iv v ∧ r.2.1 = n2 ∧ R r.2.2)) (h91 : ∀ C1, R C1 → C1 91 = .inl (1, 1, .inr (.inl o))) : gj_G md_La_differ (d + 1) K N 0 0 0 [(0, .ref (1)), (1, .int (a1)), (2, .ref (91))] [] n C (fun r => r.1 = gj_iv 0 ∧ r.2.1 = n2 ∧ ∃ C1, R C1 ∧ r.2.2 = va_up C1 91 (.inl (1, 1, .inr (.inl (vp_updL o 0 v.toInt64))))) := by
  refine gj_aload_n d_La_differ_0 rfl ?_
  refine gj_kc (v := 0) d_La_differ_1 (by decide) ?_
  refine gj_aload_n d_La_differ_2 rfl ?_
  refine gj_iload_n d_La_differ_3 rfl ?_
  refine gj_callV (as := [.int (a1)]) (rest := [.int 0, .ref 91]) (K1 := K) (N1 := N) d_La_differ_4 mo_RB_differ gw_562 gw_563 gw_564 o1 rfl pl_RB_differ (Nat.le_of_ble_eq_true rfl) (Nat.le_of_ble_eq_true rfl) (by omega) (by omega) hG (fun E n2 C2 _ h => by obtain ⟨hv, -⟩ := h; exact nomatch hv) (fun v2 n3 C2 _ h => ?_)
  obtain ⟨hv, hn, hR⟩ := h
  dsimp only [gj_iv, gj_lv2] at hv hn
  cases hv
  subst hn
  refine gj_i2l d_La_differ_7 ?_
  refine gj_last d_La_differ_8 (h91 C2 hR) rfl (vp_in_nI (n := 0) (by omega) (by decide)) ?_
  refine gj_goto (tgt := 15) d_La_differ_9 (by decide) ?_
  refine gj_kc (v := 0) d_La_differ_15 (by decide) ?_
  exact gj_iret rfl (by omega) (by omega) d_La_differ_16 ⟨rfl, rfl, C2, hR, rfl⟩
theorem h_currency_IAE {d K N n : Nat} {C : Nat → va_E} {a1 a2 a3 : Int32} {fs : List Value} (o1 : C 1 = .inr (0, fs)) (hG : gj_G md_RB_currency d K N 0 0 0 [(0, .ref (1)), (1, .int (a1)), (2, .int (a2)), (3, .int (a3))] [] n C (fun r => r = (.inr "java/lang/IllegalArgumentException", n, C))) : gj_G md_La_currency (d + 1) K N 0 0 0 [(0, .ref (1)), (1, .int (a1)), (2, .int (a2)), (3, .int (a3)), (4, .ref (91))] [] n C (fun r => r = (gj_iv 1, n, C)) := by
  refine gj_aload d_La_currency_0 rfl ?_
  refine gj_kc (v := 0) d_La_currency_2 (by decide) ?_
  refine gj_aload_n d_La_currency_3 rfl ?_
  refine gj_iload_n d_La_currency_4 rfl ?_
  refine gj_iload_n d_La_currency_5 rfl ?_
  refine gj_iload_n d_La_currency_6 rfl ?_
  refine gj_callV (as := [.int (a1), .int (a2), .int (a3)]) (rest := [.int 0, .ref 91]) (K1 := K) (N1 := N) d_La_currency_7 mo_RB_currency gw_570 gw_571 gw_572 o1 rfl pl_RB_currency (Nat.le_of_ble_eq_true rfl) (Nat.le_of_ble_eq_true rfl) (by omega) (by omega) hG (fun E n2 C2 _ h => ?_) (fun v n2 C2 _ h => by cases h)
  cases h
  refine gj_xcatch (hpc := 15) (i := 5) (ln := 2) ⟨by decide, by decide, "java/lang/IllegalArgumentException", gw_235, Or.inl ⟨gw_246, rfl⟩⟩ (Or.inr ⟨rfl, d_La_currency_15⟩) (by decide) ?_
  refine gj_kc (v := 1) d_La_currency_17 (by decide) ?_
  exact gj_iret rfl (by omega) (by omega) d_La_currency_18 rfl
theorem h_currency_UOE {d K N n : Nat} {C : Nat → va_E} {a1 a2 a3 : Int32} {fs : List Value} (o1 : C 1 = .inr (0, fs)) (hG : gj_G md_RB_currency d K N 0 0 0 [(0, .ref (1)), (1, .int (a1)), (2, .int (a2)), (3, .int (a3))] [] n C (fun r => r = (.inr "java/lang/UnsupportedOperationException", n, C))) : gj_G md_La_currency (d + 1) K N 0 0 0 [(0, .ref (1)), (1, .int (a1)), (2, .int (a2)), (3, .int (a3)), (4, .ref (91))] [] n C (fun r => r = (gj_iv 2, n, C)) := by
  refine gj_aload d_La_currency_0 rfl ?_
  refine gj_kc (v := 0) d_La_currency_2 (by decide) ?_
  refine gj_aload_n d_La_currency_3 rfl ?_
  refine gj_iload_n d_La_currency_4 rfl ?_
  refine gj_iload_n d_La_currency_5 rfl ?_
  refine gj_iload_n d_La_currency_6 rfl ?_
  refine gj_callV (as := [.int (a1), .int (a2), .int (a3)]) (rest := [.int 0, .ref 91]) (K1 := K) (N1 := N) d_La_currency_7 mo_RB_currency gw_570 gw_571 gw_572 o1 rfl pl_RB_currency (Nat.le_of_ble_eq_true rfl) (Nat.le_of_ble_eq_true rfl) (by omega) (by omega) hG (fun E n2 C2 _ h => ?_) (fun v n2 C2 _ h => by cases h)
  cases h
  refine gj_xcatch (hpc := 19) (i := 5) (ln := 2) ⟨by decide, by decide, "java/lang/IllegalArgumentException", gw_235, Or.inr ⟨nc_UOE_IAE, ⟨by decide, by decide, "java/lang/UnsupportedOperationException", gw_236, Or.inl ⟨gw_316, rfl⟩⟩⟩⟩ (Or.inr ⟨rfl, d_La_currency_19⟩) (by decide) ?_
  refine gj_kc (v := 2) d_La_currency_21 (by decide) ?_
  exact gj_iret rfl (by omega) (by omega) d_La_currency_22 rfl
theorem h_currency {d K N n n2 : Nat} {C : Nat → va_E} {a1 a2 a3 : Int32} {v : Int32} {fs : List Value} {o : Nat → Int64} {R : (Nat → va_E) → Prop} (o1 : C 1 = .inr (0, fs)) (hG : gj_G md_RB_currency d K N 0 0 0 [(0, .ref (1)), (1, .int (a1)), (2, .int (a2)), (3, .int (a3))] [] n C (fun r => r.1 = gj_iv v ∧ r.2.1 = n2 ∧ R r.2.2)) (h91 : ∀ C1, R C1 → C1 91 = .inl (1, 1, .inr (.inl o))) : gj_G md_La_currency (d + 1) K N 0 0 0 [(0, .ref (1)), (1, .int (a1)), (2, .int (a2)), (3, .int (a3)), (4, .ref (91))] [] n C (fun r => r.1 = gj_iv 0 ∧ r.2.1 = n2 ∧ ∃ C1, R C1 ∧ r.2.2 = va_up C1 91 (.inl (1, 1, .inr (.inl (vp_updL o 0 v.toInt64))))) := by
  refine gj_aload d_La_currency_0 rfl ?_
  refine gj_kc (v := 0) d_La_currency_2 (by decide) ?_
  refine gj_aload_n d_La_currency_3 rfl ?_
  refine gj_iload_n d_La_currency_4 rfl ?_
  refine gj_iload_n d_La_currency_5 rfl ?_
  refine gj_iload_n d_La_currency_6 rfl ?_
  refine gj_callV (as := [.int (a1), .int (a2), .int (a3)]) (rest := [.int 0, .ref 91]) (K1 := K) (N1 := N) d_La_currency_7 mo_RB_currency gw_570 gw_571 gw_572 o1 rfl pl_RB_currency (Nat.le_of_ble_eq_true rfl) (Nat.le_of_ble_eq_true rfl) (by omega) (by omega) hG (fun E n2 C2 _ h => by obtain ⟨hv, -⟩ := h; exact nomatch hv) (fun v2 n3 C2 _ h => ?_)
  obtain ⟨hv, hn, hR⟩ := h
  dsimp only [gj_iv, gj_lv2] at hv hn
  cases hv
  subst hn
  refine gj_i2l d_La_currency_10 ?_
  refine gj_last d_La_currency_11 (h91 C2 hR) rfl (vp_in_nI (n := 0) (by omega) (by decide)) ?_
  refine gj_goto (tgt := 23) d_La_currency_12 (by decide) ?_
  refine gj_kc (v := 0) d_La_currency_23 (by decide) ?_
  exact gj_iret rfl (by omega) (by omega) d_La_currency_24 ⟨rfl, rfl, C2, hR, rfl⟩
theorem h_converted_IAE {d K N n : Nat} {C : Nat → va_E} {a1 a2 : Int32} {fs : List Value} (o1 : C 1 = .inr (0, fs)) (hG : gj_G md_RB_converted d K N 0 0 0 [(0, .ref (1)), (1, .int (a1)), (2, .int (a2))] [] n C (fun r => r = (.inr "java/lang/IllegalArgumentException", n, C))) : gj_G md_La_converted (d + 1) K N 0 0 0 [(0, .ref (1)), (1, .int (a1)), (2, .int (a2)), (3, .ref (91))] [] n C (fun r => r = (gj_iv 1, n, C)) := by
  refine gj_aload_n d_La_converted_0 rfl ?_
  refine gj_kc (v := 0) d_La_converted_1 (by decide) ?_
  refine gj_aload_n d_La_converted_2 rfl ?_
  refine gj_iload_n d_La_converted_3 rfl ?_
  refine gj_iload_n d_La_converted_4 rfl ?_
  refine gj_callV (as := [.int (a1), .int (a2)]) (rest := [.int 0, .ref 91]) (K1 := K) (N1 := N) d_La_converted_5 mo_RB_converted gw_577 gw_578 gw_579 o1 rfl pl_RB_converted (Nat.le_of_ble_eq_true rfl) (Nat.le_of_ble_eq_true rfl) (by omega) (by omega) hG (fun E n2 C2 _ h => ?_) (fun v n2 C2 _ h => by cases h)
  cases h
  refine gj_xcatch (hpc := 12) (i := 4) (ln := 2) ⟨by decide, by decide, "java/lang/IllegalArgumentException", gw_235, Or.inl ⟨gw_246, rfl⟩⟩ (Or.inr ⟨rfl, d_La_converted_12⟩) (by decide) ?_
  refine gj_kc (v := 1) d_La_converted_14 (by decide) ?_
  exact gj_iret rfl (by omega) (by omega) d_La_converted_15 rfl
theorem h_converted {d K N n n2 : Nat} {C : Nat → va_E} {a1 a2 : Int32} {v : Int64} {fs : List Value} {o : Nat → Int64} {R : (Nat → va_E) → Prop} (o1 : C 1 = .inr (0, fs)) (hG : gj_G md_RB_converted d K N 0 0 0 [(0, .ref (1)), (1, .int (a1)), (2, .int (a2))] [] n C (fun r => r.1 = gj_lv2 v ∧ r.2.1 = n2 ∧ R r.2.2)) (h91 : ∀ C1, R C1 → C1 91 = .inl (1, 1, .inr (.inl o))) : gj_G md_La_converted (d + 1) K N 0 0 0 [(0, .ref (1)), (1, .int (a1)), (2, .int (a2)), (3, .ref (91))] [] n C (fun r => r.1 = gj_iv 0 ∧ r.2.1 = n2 ∧ ∃ C1, R C1 ∧ r.2.2 = va_up C1 91 (.inl (1, 1, .inr (.inl (vp_updL o 0 v))))) := by
  refine gj_aload_n d_La_converted_0 rfl ?_
  refine gj_kc (v := 0) d_La_converted_1 (by decide) ?_
  refine gj_aload_n d_La_converted_2 rfl ?_
  refine gj_iload_n d_La_converted_3 rfl ?_
  refine gj_iload_n d_La_converted_4 rfl ?_
  refine gj_callV (as := [.int (a1), .int (a2)]) (rest := [.int 0, .ref 91]) (K1 := K) (N1 := N) d_La_converted_5 mo_RB_converted gw_577 gw_578 gw_579 o1 rfl pl_RB_converted (Nat.le_of_ble_eq_true rfl) (Nat.le_of_ble_eq_true rfl) (by omega) (by omega) hG (fun E n2 C2 _ h => by obtain ⟨hv, -⟩ := h; exact nomatch hv) (fun v2 n3 C2 _ h => ?_)
  obtain ⟨hv, hn, hR⟩ := h
  dsimp only [gj_iv, gj_lv2] at hv hn
  cases hv
  subst hn
  refine gj_last d_La_converted_8 (h91 C2 hR) rfl (vp_in_nI (n := 0) (by omega) (by decide)) ?_
  refine gj_goto (tgt := 16) d_La_converted_9 (by decide) ?_
  refine gj_kc (v := 0) d_La_converted_16 (by decide) ?_
  exact gj_iret rfl (by omega) (by omega) d_La_converted_17 ⟨rfl, rfl, C2, hR, rfl⟩
theorem h_told_NSE {d K N n : Nat} {C : Nat → va_E} {a1 a2 : Int32} {fs : List Value} (o1 : C 1 = .inr (0, fs)) (hG : gj_G md_RB_told d K N 0 0 0 [(0, .ref (1)), (1, .int (a1)), (2, .int (a2))] [] n C (fun r => r = (.inr "java/util/NoSuchElementException", n, C))) : gj_G md_La_told (d + 1) K N 0 0 0 [(0, .ref (1)), (1, .int (a1)), (2, .int (a2)), (3, .ref (91))] [] n C (fun r => r = (gj_iv 1, n, C)) := by
  refine gj_aload_n d_La_told_0 rfl ?_
  refine gj_kc (v := 0) d_La_told_1 (by decide) ?_
  refine gj_aload_n d_La_told_2 rfl ?_
  refine gj_iload_n d_La_told_3 rfl ?_
  refine gj_iload_n d_La_told_4 rfl ?_
  refine gj_callV (as := [.int (a1), .int (a2)]) (rest := [.int 0, .ref 91]) (K1 := K) (N1 := N) d_La_told_5 mo_RB_told gw_585 gw_586 gw_587 o1 rfl pl_RB_told (Nat.le_of_ble_eq_true rfl) (Nat.le_of_ble_eq_true rfl) (by omega) (by omega) hG (fun E n2 C2 _ h => ?_) (fun v n2 C2 _ h => by cases h)
  cases h
  refine gj_xcatch (hpc := 13) (i := 4) (ln := 2) ⟨by decide, by decide, "java/util/NoSuchElementException", gw_379, Or.inl ⟨gw_391, rfl⟩⟩ (Or.inr ⟨rfl, d_La_told_13⟩) (by decide) ?_
  refine gj_kc (v := 1) d_La_told_15 (by decide) ?_
  exact gj_iret rfl (by omega) (by omega) d_La_told_16 rfl
theorem h_told_IAE {d K N n : Nat} {C : Nat → va_E} {a1 a2 : Int32} {fs : List Value} (o1 : C 1 = .inr (0, fs)) (hG : gj_G md_RB_told d K N 0 0 0 [(0, .ref (1)), (1, .int (a1)), (2, .int (a2))] [] n C (fun r => r = (.inr "java/lang/IllegalArgumentException", n, C))) : gj_G md_La_told (d + 1) K N 0 0 0 [(0, .ref (1)), (1, .int (a1)), (2, .int (a2)), (3, .ref (91))] [] n C (fun r => r = (gj_iv 2, n, C)) := by
  refine gj_aload_n d_La_told_0 rfl ?_
  refine gj_kc (v := 0) d_La_told_1 (by decide) ?_
  refine gj_aload_n d_La_told_2 rfl ?_
  refine gj_iload_n d_La_told_3 rfl ?_
  refine gj_iload_n d_La_told_4 rfl ?_
  refine gj_callV (as := [.int (a1), .int (a2)]) (rest := [.int 0, .ref 91]) (K1 := K) (N1 := N) d_La_told_5 mo_RB_told gw_585 gw_586 gw_587 o1 rfl pl_RB_told (Nat.le_of_ble_eq_true rfl) (Nat.le_of_ble_eq_true rfl) (by omega) (by omega) hG (fun E n2 C2 _ h => ?_) (fun v n2 C2 _ h => by cases h)
  cases h
  refine gj_xcatch (hpc := 17) (i := 4) (ln := 2) ⟨by decide, by decide, "java/util/NoSuchElementException", gw_379, Or.inr ⟨nc_IAE_NSE, ⟨by decide, by decide, "java/lang/IllegalArgumentException", gw_235, Or.inl ⟨gw_246, rfl⟩⟩⟩⟩ (Or.inr ⟨rfl, d_La_told_17⟩) (by decide) ?_
  refine gj_kc (v := 2) d_La_told_19 (by decide) ?_
  exact gj_iret rfl (by omega) (by omega) d_La_told_20 rfl
theorem h_told {d K N n n2 : Nat} {C : Nat → va_E} {a1 a2 : Int32} {v : Int32} {fs : List Value} {o : Nat → Int64} {R : (Nat → va_E) → Prop} (o1 : C 1 = .inr (0, fs)) (hG : gj_G md_RB_told d K N 0 0 0 [(0, .ref (1)), (1, .int (a1)), (2, .int (a2))] [] n C (fun r => r.1 = gj_iv v ∧ r.2.1 = n2 ∧ R r.2.2)) (h91 : ∀ C1, R C1 → C1 91 = .inl (1, 1, .inr (.inl o))) : gj_G md_La_told (d + 1) K N 0 0 0 [(0, .ref (1)), (1, .int (a1)), (2, .int (a2)), (3, .ref (91))] [] n C (fun r => r.1 = gj_iv 0 ∧ r.2.1 = n2 ∧ ∃ C1, R C1 ∧ r.2.2 = va_up C1 91 (.inl (1, 1, .inr (.inl (vp_updL o 0 v.toInt64))))) := by
  refine gj_aload_n d_La_told_0 rfl ?_
  refine gj_kc (v := 0) d_La_told_1 (by decide) ?_
  refine gj_aload_n d_La_told_2 rfl ?_
  refine gj_iload_n d_La_told_3 rfl ?_
  refine gj_iload_n d_La_told_4 rfl ?_
  refine gj_callV (as := [.int (a1), .int (a2)]) (rest := [.int 0, .ref 91]) (K1 := K) (N1 := N) d_La_told_5 mo_RB_told gw_585 gw_586 gw_587 o1 rfl pl_RB_told (Nat.le_of_ble_eq_true rfl) (Nat.le_of_ble_eq_true rfl) (by omega) (by omega) hG (fun E n2 C2 _ h => by obtain ⟨hv, -⟩ := h; exact nomatch hv) (fun v2 n3 C2 _ h => ?_)
  obtain ⟨hv, hn, hR⟩ := h
  dsimp only [gj_iv, gj_lv2] at hv hn
  cases hv
  subst hn
  refine gj_i2l d_La_told_8 ?_
  refine gj_last d_La_told_9 (h91 C2 hR) rfl (vp_in_nI (n := 0) (by omega) (by decide)) ?_
  refine gj_goto (tgt := 21) d_La_told_10 (by decide) ?_
  refine gj_kc (v := 0) d_La_told_21 (by decide) ?_
  exact gj_iret rfl (by omega) (by omega) d_La_told_22 ⟨rfl, rfl, C2, hR, rfl⟩
