/-! the law: its loop -/
theorem lw_g {i L : Nat} (hL : L ≤ 2560) (hi : i ≤ 3000) : nI L - 5 < nI i ↔ L < i + 5 := by
  have e : (nI L - 5).toInt = (L : Int) - 5 := by
    rw [Int32.toInt_sub, nI_toInt (by omega), show (5 : Int32).toInt = 5 by decide]
    exact Int.bmod_eq_of_le (by omega) (by omega)
  rw [Int32.lt_iff_toInt_lt, e, nI_toInt (by omega)]
  omega
/-- every call keeps I and answers alike -/
def lw_all (I : (Nat → va_E) → Nat → Prop) (d : Nat) : Prop :=
  (∀ (C : Nat → va_E) (n : Nat) (a0 : Int32), I C n → lw_st I md_La_sign md_Mo_sign [.int a0] d C n) ∧
  (∀ (C : Nat → va_E) (n : Nat), I C n → lw_sd I md_RB_read md_Mo_read [] d C n) ∧
  (∀ (C : Nat → va_E) (n : Nat) (a0 a1 a2 : Int32), I C n → lw_st I md_La_shipment md_Mo_shipment [.int a0, .int a1, .int a2] d C n) ∧
  (∀ (C : Nat → va_E) (n : Nat) (a0 a1 : Int32), I C n → lw_st I md_La_weight md_Mo_weight [.int a0, .int a1] d C n) ∧
  (∀ (C : Nat → va_E) (n : Nat) (a0 a1 : Int32), I C n → lw_st I md_La_price md_Mo_price [.int a0, .int a1] d C n) ∧
  (∀ (C : Nat → va_E) (n : Nat) (a0 : Int32), I C n → lw_st I md_La_cheapest md_Mo_cheapest [.int a0] d C n) ∧
  (∀ (C : Nat → va_E) (n : Nat) (a0 a1 : Int32), I C n → lw_st I md_La_parcels md_Mo_parcels [.int a0, .int a1] d C n) ∧
  (∀ (C : Nat → va_E) (n : Nat) (a0 a1 a2 a3 : Int32), I C n → lw_st I md_La_contract md_Mo_contract [.int a0, .int a1, .int a2, .int a3] d C n) ∧
  (∀ (C : Nat → va_E) (n : Nat) (a0 a1 : Int32), I C n → lw_st I md_La_book md_Mo_book [.int a0, .int a1] d C n) ∧
  (∀ (C : Nat → va_E) (n : Nat) (a0 a1 : Int32), I C n → lw_st I md_La_combine md_Mo_combine [.int a0, .int a1] d C n) ∧
  (∀ (C : Nat → va_E) (n : Nat) (a0 a1 : Int32), I C n → lw_st I md_La_invoice md_Mo_invoice [.int a0, .int a1] d C n) ∧
  (∀ (C : Nat → va_E) (n : Nat) (a0 a1 : Int32), I C n → lw_st I md_La_refund md_Mo_refund [.int a0, .int a1] d C n) ∧
  (∀ (C : Nat → va_E) (n : Nat) (a0 : Int32), I C n → lw_st I md_La_differ md_Mo_differ [.int a0] d C n) ∧
  (∀ (C : Nat → va_E) (n : Nat) (a0 a1 a2 : Int32), I C n → lw_st I md_La_currency md_Mo_currency [.int a0, .int a1, .int a2] d C n) ∧
  (∀ (C : Nat → va_E) (n : Nat) (a0 a1 : Int32), I C n → lw_sl I md_La_converted md_Mo_converted [.int a0, .int a1] d C n) ∧
  (∀ (C : Nat → va_E) (n : Nat) (a0 a1 : Int32), I C n → lw_st I md_La_told md_Mo_told [.int a0, .int a1] d C n) ∧
  (∀ (C : Nat → va_E) (n : Nat) (a0 : Int32), I C n → lw_sd I md_RB_count md_Mo_count [.int a0] d C n)
set_option maxHeartbeats 4000000 in
theorem c_La_loop {d K N L : Nat} {xs : Nat → Int32} {I : (Nat → va_E) → Nat → Prop} (hL : L ≤ 2560) (H : lw_all I d) : ∀ (m t k w n : Nat) (C : Nat → va_E), L < 5 * t + 5 * m + 5 → t + m ≤ 600 → k + m ≤ K → w + 6 * m ≤ N → I C n → C 0 = .inl (999, L, .inl xs) → gj_G md_La_law (d + 1) K N k w 23 [(0, .ref (0)), (1, .ref (1)), (2, .ref (70)), (3, .ref (91)), (4, .int (nI (5 * t)))] [] n C (fun r => r.1 = gj_iv 1) := by
  intro m
  induction m with
  | zero =>
    intro t k w n C hm ht hk hw hI h0
    refine gj_iload d_La_law_23 rfl ?_
    refine gj_aload_n d_La_law_25 rfl ?_
    refine gj_slen d_La_law_26 h0 ?_
    refine gj_kc (v := 5) d_La_law_27 (by decide) ?_
    refine gj_isub d_La_law_28 ?_
    refine gj_icmp_gt (tgt := 1195) d_La_law_29 (by decide) (fun _ => ?_) (fun h => absurd ((lw_g hL (by omega)).mpr (by omega)) h)
    refine gj_kc (v := 1) d_La_law_1195 (by decide) ?_
    exact gj_zret rfl (Or.inr rfl) (by omega) (by omega) d_La_law_1196 rfl
  | succ m ih =>
    intro t k w n C hm ht hk hw hI h0
    refine gj_iload d_La_law_23 rfl ?_
    refine gj_aload_n d_La_law_25 rfl ?_
    refine gj_slen d_La_law_26 h0 ?_
    refine gj_kc (v := 5) d_La_law_27 (by decide) ?_
    refine gj_isub d_La_law_28 ?_
    refine gj_icmp_gt (tgt := 1195) d_La_law_29 (by decide) (fun _ => ?_) (fun hg => ?_)
    · refine gj_kc (v := 1) d_La_law_1195 (by decide) ?_
      exact gj_zret rfl (Or.inr rfl) (by omega) (by omega) d_La_law_1196 rfl
    have hi : 5 * t + 5 ≤ L := by
      rcases Nat.lt_or_ge L (5 * t + 5) with q | q
      · exact absurd ((lw_g hL (by omega)).mpr q) hg
      · exact q
    have hnext : ∀ (C2 : Nat → va_E) (n2 k2 w2 : Nat), k2 + m ≤ K → w2 + 6 * m ≤ N → I C2 n2 → C2 0 = C 0 → gj_G md_La_law (d + 1) K N k2 w2 1189 [(0, .ref (0)), (1, .ref (1)), (2, .ref (70)), (3, .ref (91)), (4, .int (nI (5 * t)))] [] n2 C2 (fun r => r.1 = gj_iv 1) := by
      intro C2 n2 k2 w2 b1 b2 b3 b4
      refine gj_iinc d_La_law_1189 rfl (by decide) ?_
      have e : nI (5 * t) + Int32.ofInt 5 = nI (5 * (t + 1)) := by rw [show Int32.ofInt 5 = nI 5 by decide, nI_add]; rfl
      rw [e]
      refine gj_goto (tgt := 23) d_La_law_1192 (by decide) ?_
      refine gj_less (lc' := [(0, .ref (0)), (1, .ref (1)), (2, .ref (70)), (3, .ref (91)), (4, .int (nI (5 * (t + 1))))]) ⟨rfl, rfl, rfl, rfl, rfl, trivial⟩ ?_
      exact ih (t + 1) k2 w2 n2 C2 (by omega) (by omega) b1 b2 b3 (b4.trans h0)
    have hn1 : ∀ (C2 : Nat → va_E) (n2 : Nat), I C2 n2 → C2 0 = C 0 → gj_G md_La_law (d + 1) K N (k + 1) (w + 6) 1189 [(0, .ref (0)), (1, .ref (1)), (2, .ref (70)), (3, .ref (91)), (4, .int (nI (5 * t)))] [] n2 C2 (fun r => r.1 = gj_iv 1) := fun C2 n2 b3 b4 => hnext C2 n2 _ _ (by omega) (by omega) b3 b4
    refine gj_aload_n d_La_law_32 rfl ?_
    refine gj_iload d_La_law_33 rfl ?_
    refine gj_sld d_La_law_35 h0 (vp_in_nI (by omega) (by omega)) ?_
    refine gj_kb (v := 31) d_La_law_36 (by decide) ?_
    refine gj_iand d_La_law_38 ?_
    by_cases s0 : xs (nI (5 * t)).toNatClampNeg &&& 31 = 0
    · refine gj_tableIn (off := 81) (tgt := 120) d_La_law_39 (by rw [s0]; decide) (by rw [s0]; decide) (by rw [s0]; decide) (by decide) ?_
      exact l_sign h0 hi hL (by omega) (by omega) (H.1 C n _ hI) hn1
    by_cases s1 : xs (nI (5 * t)).toNatClampNeg &&& 31 = 1
    · refine gj_tableIn (off := 137) (tgt := 176) d_La_law_39 (by rw [s1]; decide) (by rw [s1]; decide) (by rw [s1]; decide) (by decide) ?_
      exact l_read h0 hi hL (by omega) (by omega) (H.2.1 C n  hI) hn1
    by_cases s2 : xs (nI (5 * t)).toNatClampNeg &&& 31 = 2
    · refine gj_tableIn (off := 150) (tgt := 189) d_La_law_39 (by rw [s2]; decide) (by rw [s2]; decide) (by rw [s2]; decide) (by decide) ?_
      exact l_shipment h0 hi hL (by omega) (by omega) (H.2.2.1 C n _ _ _ hI) hn1
    by_cases s3 : xs (nI (5 * t)).toNatClampNeg &&& 31 = 3
    · refine gj_tableIn (off := 230) (tgt := 269) d_La_law_39 (by rw [s3]; decide) (by rw [s3]; decide) (by rw [s3]; decide) (by decide) ?_
      exact l_weight h0 hi hL (by omega) (by omega) (H.2.2.2.1 C n _ _ hI) hn1
    by_cases s4 : xs (nI (5 * t)).toNatClampNeg &&& 31 = 4
    · refine gj_tableIn (off := 298) (tgt := 337) d_La_law_39 (by rw [s4]; decide) (by rw [s4]; decide) (by rw [s4]; decide) (by decide) ?_
      exact l_price h0 hi hL (by omega) (by omega) (H.2.2.2.2.1 C n _ _ hI) hn1
    by_cases s5 : xs (nI (5 * t)).toNatClampNeg &&& 31 = 5
    · refine gj_tableIn (off := 366) (tgt := 405) d_La_law_39 (by rw [s5]; decide) (by rw [s5]; decide) (by rw [s5]; decide) (by decide) ?_
      exact l_cheapest h0 hi hL (by omega) (by omega) (H.2.2.2.2.2.1 C n _ hI) hn1
    by_cases s6 : xs (nI (5 * t)).toNatClampNeg &&& 31 = 6
    · refine gj_tableIn (off := 422) (tgt := 461) d_La_law_39 (by rw [s6]; decide) (by rw [s6]; decide) (by rw [s6]; decide) (by decide) ?_
      exact l_parcels h0 hi hL (by omega) (by omega) (H.2.2.2.2.2.2.1 C n _ _ hI) hn1
    by_cases s7 : xs (nI (5 * t)).toNatClampNeg &&& 31 = 7
    · refine gj_tableIn (off := 490) (tgt := 529) d_La_law_39 (by rw [s7]; decide) (by rw [s7]; decide) (by rw [s7]; decide) (by decide) ?_
      exact l_contract h0 hi hL (by omega) (by omega) (H.2.2.2.2.2.2.2.1 C n _ _ _ _ hI) hn1
    by_cases s8 : xs (nI (5 * t)).toNatClampNeg &&& 31 = 8
    · refine gj_tableIn (off := 582) (tgt := 621) d_La_law_39 (by rw [s8]; decide) (by rw [s8]; decide) (by rw [s8]; decide) (by decide) ?_
      exact l_book h0 hi hL (by omega) (by omega) (H.2.2.2.2.2.2.2.2.1 C n _ _ hI) hn1
    by_cases s9 : xs (nI (5 * t)).toNatClampNeg &&& 31 = 9
    · refine gj_tableIn (off := 650) (tgt := 689) d_La_law_39 (by rw [s9]; decide) (by rw [s9]; decide) (by rw [s9]; decide) (by decide) ?_
      exact l_combine h0 hi hL (by omega) (by omega) (H.2.2.2.2.2.2.2.2.2.1 C n _ _ hI) hn1
    by_cases s10 : xs (nI (5 * t)).toNatClampNeg &&& 31 = 10
    · refine gj_tableIn (off := 718) (tgt := 757) d_La_law_39 (by rw [s10]; decide) (by rw [s10]; decide) (by rw [s10]; decide) (by decide) ?_
      exact l_invoice h0 hi hL (by omega) (by omega) (H.2.2.2.2.2.2.2.2.2.2.1 C n _ _ hI) hn1
    by_cases s11 : xs (nI (5 * t)).toNatClampNeg &&& 31 = 11
    · refine gj_tableIn (off := 786) (tgt := 825) d_La_law_39 (by rw [s11]; decide) (by rw [s11]; decide) (by rw [s11]; decide) (by decide) ?_
      exact l_refund h0 hi hL (by omega) (by omega) (H.2.2.2.2.2.2.2.2.2.2.2.1 C n _ _ hI) hn1
    by_cases s12 : xs (nI (5 * t)).toNatClampNeg &&& 31 = 12
    · refine gj_tableIn (off := 854) (tgt := 893) d_La_law_39 (by rw [s12]; decide) (by rw [s12]; decide) (by rw [s12]; decide) (by decide) ?_
      exact l_differ h0 hi hL (by omega) (by omega) (H.2.2.2.2.2.2.2.2.2.2.2.2.1 C n _ hI) hn1
    by_cases s13 : xs (nI (5 * t)).toNatClampNeg &&& 31 = 13
    · refine gj_tableIn (off := 910) (tgt := 949) d_La_law_39 (by rw [s13]; decide) (by rw [s13]; decide) (by rw [s13]; decide) (by decide) ?_
      exact l_currency h0 hi hL (by omega) (by omega) (H.2.2.2.2.2.2.2.2.2.2.2.2.2.1 C n _ _ _ hI) hn1
    by_cases s14 : xs (nI (5 * t)).toNatClampNeg &&& 31 = 14
    · refine gj_tableIn (off := 990) (tgt := 1029) d_La_law_39 (by rw [s14]; decide) (by rw [s14]; decide) (by rw [s14]; decide) (by decide) ?_
      exact l_converted h0 hi hL (by omega) (by omega) (H.2.2.2.2.2.2.2.2.2.2.2.2.2.2.1 C n _ _ hI) hn1
    by_cases s15 : xs (nI (5 * t)).toNatClampNeg &&& 31 = 15
    · refine gj_tableIn (off := 1057) (tgt := 1096) d_La_law_39 (by rw [s15]; decide) (by rw [s15]; decide) (by rw [s15]; decide) (by decide) ?_
      exact l_told h0 hi hL (by omega) (by omega) (H.2.2.2.2.2.2.2.2.2.2.2.2.2.2.2.1 C n _ _ hI) hn1
    by_cases s16 : xs (nI (5 * t)).toNatClampNeg &&& 31 = 16
    · refine gj_tableIn (off := 1125) (tgt := 1164) d_La_law_39 (by rw [s16]; decide) (by rw [s16]; decide) (by rw [s16]; decide) (by decide) ?_
      exact l_count h0 hi hL (by omega) (by omega) (H.2.2.2.2.2.2.2.2.2.2.2.2.2.2.2.2 C n _ hI) hn1
    have a0 : ¬ (xs (nI (5 * t)).toNatClampNeg &&& 31 : Int32).toInt = 0 := fun h => s0 (Int32.toInt_inj.mp (h.trans (by decide)))
    have a1 : ¬ (xs (nI (5 * t)).toNatClampNeg &&& 31 : Int32).toInt = 1 := fun h => s1 (Int32.toInt_inj.mp (h.trans (by decide)))
    have a2 : ¬ (xs (nI (5 * t)).toNatClampNeg &&& 31 : Int32).toInt = 2 := fun h => s2 (Int32.toInt_inj.mp (h.trans (by decide)))
    have a3 : ¬ (xs (nI (5 * t)).toNatClampNeg &&& 31 : Int32).toInt = 3 := fun h => s3 (Int32.toInt_inj.mp (h.trans (by decide)))
    have a4 : ¬ (xs (nI (5 * t)).toNatClampNeg &&& 31 : Int32).toInt = 4 := fun h => s4 (Int32.toInt_inj.mp (h.trans (by decide)))
    have a5 : ¬ (xs (nI (5 * t)).toNatClampNeg &&& 31 : Int32).toInt = 5 := fun h => s5 (Int32.toInt_inj.mp (h.trans (by decide)))
    have a6 : ¬ (xs (nI (5 * t)).toNatClampNeg &&& 31 : Int32).toInt = 6 := fun h => s6 (Int32.toInt_inj.mp (h.trans (by decide)))
    have a7 : ¬ (xs (nI (5 * t)).toNatClampNeg &&& 31 : Int32).toInt = 7 := fun h => s7 (Int32.toInt_inj.mp (h.trans (by decide)))
    have a8 : ¬ (xs (nI (5 * t)).toNatClampNeg &&& 31 : Int32).toInt = 8 := fun h => s8 (Int32.toInt_inj.mp (h.trans (by decide)))
    have a9 : ¬ (xs (nI (5 * t)).toNatClampNeg &&& 31 : Int32).toInt = 9 := fun h => s9 (Int32.toInt_inj.mp (h.trans (by decide)))
    have a10 : ¬ (xs (nI (5 * t)).toNatClampNeg &&& 31 : Int32).toInt = 10 := fun h => s10 (Int32.toInt_inj.mp (h.trans (by decide)))
    have a11 : ¬ (xs (nI (5 * t)).toNatClampNeg &&& 31 : Int32).toInt = 11 := fun h => s11 (Int32.toInt_inj.mp (h.trans (by decide)))
    have a12 : ¬ (xs (nI (5 * t)).toNatClampNeg &&& 31 : Int32).toInt = 12 := fun h => s12 (Int32.toInt_inj.mp (h.trans (by decide)))
    have a13 : ¬ (xs (nI (5 * t)).toNatClampNeg &&& 31 : Int32).toInt = 13 := fun h => s13 (Int32.toInt_inj.mp (h.trans (by decide)))
    have a14 : ¬ (xs (nI (5 * t)).toNatClampNeg &&& 31 : Int32).toInt = 14 := fun h => s14 (Int32.toInt_inj.mp (h.trans (by decide)))
    have a15 : ¬ (xs (nI (5 * t)).toNatClampNeg &&& 31 : Int32).toInt = 15 := fun h => s15 (Int32.toInt_inj.mp (h.trans (by decide)))
    have a16 : ¬ (xs (nI (5 * t)).toNatClampNeg &&& 31 : Int32).toInt = 16 := fun h => s16 (Int32.toInt_inj.mp (h.trans (by decide)))
    refine gj_tableOut (tgt := 1189) d_La_law_39 (by omega) (by decide) ?_
    exact hnext C n k w (by omega) (by omega) hI rfl
