/-! numbers are naturals -/
theorem pt_dg {c : Int32} (h : 48 ≤ c ∧ c ≤ 57) : ∃ k : Nat, k ≤ 9 ∧ c - 48 = nI k := by
  have h1 := Int32.le_iff_toInt_le.mp h.1
  have h2 := Int32.le_iff_toInt_le.mp h.2
  have e1 : (48 : Int32).toInt = 48 := by decide
  have e2 : (57 : Int32).toInt = 57 := by decide
  have hn : ¬ c < 0 := by
    rw [Int32.lt_iff_toInt_lt]
    have e3 : (0 : Int32).toInt = 0 := by decide
    omega
  obtain ⟨j, hj, rfl⟩ := nI_of hn
  rw [nI_toInt hj] at h1 h2
  obtain ⟨k, rfl⟩ : ∃ k, j = k + 48 := ⟨j - 48, by omega⟩
  refine ⟨k, by omega, ?_⟩
  rw [← nI_add]
  show nI k + 48 - 48 = nI k
  rw [Int32.add_sub_cancel]
theorem pt_vl_nat (f : Nat → Int32) (ln : Nat) : ∀ m q v, ∃ u, u < (v + 1) * 10 ^ m ∧ pt_vl f ln q (nI v) m = nI u
  | 0, _, v => ⟨v, by omega, rfl⟩
  | m + 1, q, v => by
    unfold pt_vl
    split
    · rename_i h
      obtain ⟨k, hk, e⟩ := pt_dg h
      rw [e, show nI v * 10 = nI (v * 10) from nI_mul v 10, nI_add]
      obtain ⟨u, hu, eu⟩ := pt_vl_nat f ln m (q + 1) (v * 10 + k)
      refine ⟨u, Nat.lt_of_lt_of_le hu ?_, eu⟩
      rw [Nat.pow_succ, Nat.mul_comm (10 ^ m) 10, ← Nat.mul_assoc]
      exact Nat.mul_le_mul_right _ (by omega)
    · refine ⟨v, ?_, rfl⟩
      have h10 : 1 ≤ 10 ^ (m + 1) := Nat.one_le_pow _ _ (by omega)
      calc v < v + 1 := Nat.lt_succ_self v
        _ = (v + 1) * 1 := (Nat.mul_one _).symm
        _ ≤ _ := Nat.mul_le_mul_left _ h10
theorem pt_num_nat (f : Nat → Int32) (ln p : Nat) (h : ¬ pt_num f ln p = -1) : ∃ u, u < 2 ^ 31 ∧ pt_num f ln p = nI u := by
  unfold pt_num at h ⊢
  split
  · rename_i h1
    rw [if_pos h1] at h
    split
    · rename_i h2
      exact absurd (if_pos h2) h
    · obtain ⟨u, hu, e⟩ := pt_vl_nat f ln 9 (p + 1) 0
      exact ⟨u, by omega, e⟩
  · rename_i h1
    exact absurd (if_neg h1) h
theorem pt_run_nat (f : Nat → Int32) (ln : Nat) : ∀ m i p g, (pt_run f ln m i p g).1 = true → (∀ k, k < i → (pt_run f ln m i p g).2.2 k = g k) ∧ ∀ k, i ≤ k → k < i + m → ∃ u, u < 2 ^ 31 ∧ (pt_run f ln m i p g).2.2 k = nI u
  | 0, i, _, _, _ => ⟨fun _ _ => rfl, fun k h1 h2 => by omega⟩
  | m + 1, i, p, g, h => by
    unfold pt_run at h ⊢
    split
    · rename_i h1
      rw [if_pos h1] at h
      exact nomatch h
    · rename_i h1
      rw [if_neg h1] at h
      obtain ⟨a1, a2⟩ := pt_run_nat f ln m (i + 1) (pt_np f ln p) (upd g i (pt_num f ln p)) h
      refine ⟨fun k hk => (a1 k (by omega)).trans (upd_ne _ _ (by omega)), fun k hk1 hk2 => ?_⟩
      by_cases hk : k = i
      · subst hk
        rw [a1 k (by omega), upd_self]
        exact pt_num_nat f ln p h1
      · exact a2 k (by omega) (by omega)
theorem pt_at_lt {f : Nat → Int32} {ln q : Nat} (h : ¬ pt_at f ln q = -1) : q < ln := by
  rcases Nat.lt_or_ge q ln with h1 | h1
  · exact h1
  · exact absurd (if_neg (Nat.not_lt.mpr h1)) h
theorem pt_blv_cases (f : Nat → Int32) (ln q : Nat) (g : Nat → Int32) : pt_blv f ln q g = -1 ∨ ∃ p2, p2 < ln ∧ pt_blv f ln q g = nI (p2 + 1) := by
  unfold pt_blv
  split
  · exact Or.inl rfl
  · split
    · rename_i h
      exact Or.inr ⟨_, pt_at_lt (by rw [h.2]; decide), rfl⟩
    · exact Or.inl rfl
theorem pt_blg_nat {f : Nat → Int32} {ln q : Nat} {g : Nat → Int32} (h : ¬ pt_blv f ln q g = -1) : ∃ u, u < 2 ^ 31 ∧ pt_blg f ln q g 0 = nI u := by
  unfold pt_blv at h
  unfold pt_blg
  split
  · rename_i h1
    exact absurd (if_pos h1) h
  · rename_i h1
    rw [if_neg h1] at h
    by_cases h2 : (pt_lr f ln q g).1 = true
    · exact (pt_run_nat f ln _ 0 _ _ h2).2 0 (Nat.le_refl 0) (by omega)
    · exact absurd (if_neg (fun x => h2 x.1)) h
set_option maxHeartbeats 2000000 in
theorem c_RB_priceNow_x {d K N n x q mk y li sp a sz : Nat} {C : Nat → va_E} {la ut ce dv mi fu fd bk fr up dn : Nat → Int32} {co : Nat → Option Nat} {z g v s c l : Int32} (o1 : C (1) = .inr (0, [.ref (2), .ref (x), .ref (q), .ref (23), .int (nI mk), .ref (24), .ref (65), .ref (66)])) (hx : C (x) = .inr (2, [.ref (x + 1), .ref (x + 2), .ref (x + 3), .ref (x + 4), .ref (x + 5), .ref (x + 6), .ref (x + 7), .ref (x + 8), .int (nI li), .int (nI sp)])) (hla : C (x + 1) = .inl (0, 60, .inl la)) (hut : C (x + 3) = .inl (0, 60, .inl ut)) (hce : C (x + 4) = .inl (0, 60, .inl ce)) (hdv : C (x + 5) = .inl (0, 10, .inl dv)) (hmi : C (x + 6) = .inl (0, 10, .inl mi)) (hfu : C (x + 7) = .inl (0, 10, .inl fu)) (hfd : C (x + 8) = .inl (0, 10, .inl fd)) (hy : C (y) = .inr (4, [.int (z), .int (g), .int (v), .int (s), .int (c), .int (l)])) (o24 : C (24) = .inl (4, 10, .inr (.inr (.inr (.inr co))))) (o65 : C (65) = .inl (0, 10, .inl bk)) (r0 : C (25 + 4 * a) = .inr (3, [.ref (25 + 4 * a + 1), .ref (25 + 4 * a + 2), .ref (25 + 4 * a + 3), .int (nI sz)])) (r1 : C (25 + 4 * a + 1) = .inl (0, 4, .inl fr)) (r2 : C (25 + 4 * a + 2) = .inl (0, 4, .inl up)) (r3 : C (25 + 4 * a + 3) = .inl (0, 4, .inl dn)) (ha : a < 10) (h60 : sp ≤ 60) (h0 : dv a = 0) (hK : 1 ≤ K) (hN : 6 ≤ N) : gj_G md_RB_priceNow (d + 3) K N 0 0 0 [(0, .ref (1)), (1, .ref (y)), (2, .int (nI a))] [] n C (fun r => r = (.inr "java/lang/ArithmeticException", n, C)) := by
  refine gj_aload_n d_RB_priceNow_0 rfl ?_
  refine gj_get d_RB_priceNow_1 gf_RB_19 o1 rfl ?_
  refine gj_iload_n d_RB_priceNow_4 rfl ?_
  refine gj_aload_n d_RB_priceNow_5 rfl ?_
  refine gj_get d_RB_priceNow_6 gf_RB_103 hy rfl ?_
  refine gj_callS (as := [.int (nI a), .int (z)]) (rest := [.ref (x)]) (K1 := 0) (N1 := 0) d_RB_priceNow_9 mo_RB_laneOf gw_447 gw_204 gw_20 pl_RB_laneOf (Nat.le_of_ble_eq_true rfl) (Nat.le_of_ble_eq_true rfl) (Nat.zero_le _) (Nat.zero_le _) (c_RB_laneOf (nI a) z) (fun E n' C' _ h => by cases h) (fun v n' C' _ h => ?_)
  cases h
  refine gj_aload_n d_RB_priceNow_12 rfl ?_
  refine gj_get d_RB_priceNow_13 gf_RB_19 o1 rfl ?_
  refine gj_aload_n d_RB_priceNow_16 rfl ?_
  refine gj_iload_n d_RB_priceNow_17 rfl ?_
  refine gj_callV (as := [.ref (y), .int (nI a)]) (rest := [.int (nI a * 10 + z), .ref (x)]) (K1 := 1) (N1 := 6) d_RB_priceNow_18 mo_Ra_weightToPay gw_409 gw_410 gw_411 hx rfl pl_Ra_weightToPay (Nat.le_of_ble_eq_true rfl) (Nat.le_of_ble_eq_true rfl) (by omega) (by omega) (c_Ra_weightToPay_x hx hdv hy ha (Nat.le_refl 1) (Nat.le_refl 6) h0) (fun E n18 C18 g18 q18 => ?_) (fun v n' C' _ h => by cases h)
  cases q18
  exact gj_xout rfl (by omega) (by omega) rfl
set_option maxHeartbeats 2000000 in
theorem c_RB_priceNow_no {d K N n x q mk y li sp a sz : Nat} {C : Nat → va_E} {la ut ce dv mi fu fd bk fr up dn : Nat → Int32} {co : Nat → Option Nat} {z g v s c l : Int32} (o1 : C (1) = .inr (0, [.ref (2), .ref (x), .ref (q), .ref (23), .int (nI mk), .ref (24), .ref (65), .ref (66)])) (hx : C (x) = .inr (2, [.ref (x + 1), .ref (x + 2), .ref (x + 3), .ref (x + 4), .ref (x + 5), .ref (x + 6), .ref (x + 7), .ref (x + 8), .int (nI li), .int (nI sp)])) (hla : C (x + 1) = .inl (0, 60, .inl la)) (hut : C (x + 3) = .inl (0, 60, .inl ut)) (hce : C (x + 4) = .inl (0, 60, .inl ce)) (hdv : C (x + 5) = .inl (0, 10, .inl dv)) (hmi : C (x + 6) = .inl (0, 10, .inl mi)) (hfu : C (x + 7) = .inl (0, 10, .inl fu)) (hfd : C (x + 8) = .inl (0, 10, .inl fd)) (hy : C (y) = .inr (4, [.int (z), .int (g), .int (v), .int (s), .int (c), .int (l)])) (o24 : C (24) = .inl (4, 10, .inr (.inr (.inr (.inr co))))) (o65 : C (65) = .inl (0, 10, .inl bk)) (r0 : C (25 + 4 * a) = .inr (3, [.ref (25 + 4 * a + 1), .ref (25 + 4 * a + 2), .ref (25 + 4 * a + 3), .int (nI sz)])) (r1 : C (25 + 4 * a + 1) = .inl (0, 4, .inl fr)) (r2 : C (25 + 4 * a + 2) = .inl (0, 4, .inl up)) (r3 : C (25 + 4 * a + 3) = .inl (0, 4, .inl dn)) (ha : a < 10) (h60 : sp ≤ 60) (h0 : ¬ dv a = 0) (hs : pr_st la ut (nI a * 10 + z) (pr_w (dv a) g v) sp 0 = -1) : gj_G md_RB_priceNow (d + 3) K N 0 0 0 [(0, .ref (1)), (1, .ref (y)), (2, .int (nI a))] [] n C (fun r => r = (gj_iv (-1), n, C)) := by
  refine gj_aload_n d_RB_priceNow_0 rfl ?_
  refine gj_get d_RB_priceNow_1 gf_RB_19 o1 rfl ?_
  refine gj_iload_n d_RB_priceNow_4 rfl ?_
  refine gj_aload_n d_RB_priceNow_5 rfl ?_
  refine gj_get d_RB_priceNow_6 gf_RB_103 hy rfl ?_
  refine gj_callS (as := [.int (nI a), .int (z)]) (rest := [.ref (x)]) (K1 := 0) (N1 := 0) d_RB_priceNow_9 mo_RB_laneOf gw_447 gw_204 gw_20 pl_RB_laneOf (Nat.le_of_ble_eq_true rfl) (Nat.le_of_ble_eq_true rfl) (Nat.zero_le _) (Nat.zero_le _) (c_RB_laneOf (nI a) z) (fun E n' C' _ h => by cases h) (fun v n' C' _ h => ?_)
  cases h
  refine gj_aload_n d_RB_priceNow_12 rfl ?_
  refine gj_get d_RB_priceNow_13 gf_RB_19 o1 rfl ?_
  refine gj_aload_n d_RB_priceNow_16 rfl ?_
  refine gj_iload_n d_RB_priceNow_17 rfl ?_
  refine gj_callV (as := [.ref (y), .int (nI a)]) (rest := [.int (nI a * 10 + z), .ref (x)]) (K1 := 0) (N1 := 0) d_RB_priceNow_18 mo_Ra_weightToPay gw_409 gw_410 gw_411 hx rfl pl_Ra_weightToPay (Nat.le_of_ble_eq_true rfl) (Nat.le_of_ble_eq_true rfl) (Nat.zero_le _) (Nat.zero_le _) (c_Ra_weightToPay hx hdv hy ha h0) (fun E n' C' _ h => by cases h) (fun v n' C' _ h => ?_)
  cases h
  refine gj_callV (as := [.int (nI a * 10 + z), .int (pr_w (dv a) g v)]) (rest := []) (K1 := 0) (N1 := 0) d_RB_priceNow_21 mo_Ra_stepFor gw_448 gw_449 gw_450 hx rfl pl_Ra_stepFor (Nat.le_of_ble_eq_true rfl) (Nat.le_of_ble_eq_true rfl) (Nat.zero_le _) (Nat.zero_le _) (c_Ra_stepFor hx hla hut h60) (fun E n' C' _ h => by cases h) (fun v n' C' _ h => ?_)
  cases h
  refine gj_top hs ?_
  refine gj_istore_n d_RB_priceNow_24 (by decide) ?_
  refine gj_iload_n d_RB_priceNow_25 rfl ?_
  refine gj_kc (v := (-1)) d_RB_priceNow_26 (by decide) ?_
  refine gj_icmp_ne (tgt := 32) d_RB_priceNow_27 (by decide) (fun h27 => absurd (rfl) h27) (fun h27 => ?_)
  refine gj_kc (v := (-1)) d_RB_priceNow_30 (by decide) ?_
  refine gj_iret rfl (Nat.zero_le _) (Nat.zero_le _) d_RB_priceNow_31 ?_
  exact rfl
set_option maxHeartbeats 2000000 in
theorem c_RB_priceNow {d K N n x q mk y li sp a sz : Nat} {C : Nat → va_E} {la ut ce dv mi fu fd bk fr up dn : Nat → Int32} {co : Nat → Option Nat} {z g v s c l : Int32} (o1 : C (1) = .inr (0, [.ref (2), .ref (x), .ref (q), .ref (23), .int (nI mk), .ref (24), .ref (65), .ref (66)])) (hx : C (x) = .inr (2, [.ref (x + 1), .ref (x + 2), .ref (x + 3), .ref (x + 4), .ref (x + 5), .ref (x + 6), .ref (x + 7), .ref (x + 8), .int (nI li), .int (nI sp)])) (hla : C (x + 1) = .inl (0, 60, .inl la)) (hut : C (x + 3) = .inl (0, 60, .inl ut)) (hce : C (x + 4) = .inl (0, 60, .inl ce)) (hdv : C (x + 5) = .inl (0, 10, .inl dv)) (hmi : C (x + 6) = .inl (0, 10, .inl mi)) (hfu : C (x + 7) = .inl (0, 10, .inl fu)) (hfd : C (x + 8) = .inl (0, 10, .inl fd)) (hy : C (y) = .inr (4, [.int (z), .int (g), .int (v), .int (s), .int (c), .int (l)])) (o24 : C (24) = .inl (4, 10, .inr (.inr (.inr (.inr co))))) (o65 : C (65) = .inl (0, 10, .inl bk)) (r0 : C (25 + 4 * a) = .inr (3, [.ref (25 + 4 * a + 1), .ref (25 + 4 * a + 2), .ref (25 + 4 * a + 3), .int (nI sz)])) (r1 : C (25 + 4 * a + 1) = .inl (0, 4, .inl fr)) (r2 : C (25 + 4 * a + 2) = .inl (0, 4, .inl up)) (r3 : C (25 + 4 * a + 3) = .inl (0, 4, .inl dn)) (ha : a < 10) (h60 : sp ≤ 60) (h0 : ¬ dv a = 0) {i : Nat} (hi : i < 60) (hs : pr_st la ut (nI a * 10 + z) (pr_w (dv a) g v) sp 0 = nI i) (hf : ¬ fd a = 0) (hco : co a = some (25 + 4 * a)) (hsz : sz ≤ 4) (hdn : ∀ p, p < sz → ¬ dn p = 0) : gj_G md_RB_priceNow (d + 3) K N 0 0 0 [(0, .ref (1)), (1, .ref (y)), (2, .int (nI a))] [] n C (fun r => r = (gj_iv (pr_px (pr_ch (ce i) (fu a) (fd a) (mi a)) up dn (pf_la fr (bk a) sz 0 none)), n, C)) := by
  refine gj_aload_n d_RB_priceNow_0 rfl ?_
  refine gj_get d_RB_priceNow_1 gf_RB_19 o1 rfl ?_
  refine gj_iload_n d_RB_priceNow_4 rfl ?_
  refine gj_aload_n d_RB_priceNow_5 rfl ?_
  refine gj_get d_RB_priceNow_6 gf_RB_103 hy rfl ?_
  refine gj_callS (as := [.int (nI a), .int (z)]) (rest := [.ref (x)]) (K1 := 0) (N1 := 0) d_RB_priceNow_9 mo_RB_laneOf gw_447 gw_204 gw_20 pl_RB_laneOf (Nat.le_of_ble_eq_true rfl) (Nat.le_of_ble_eq_true rfl) (Nat.zero_le _) (Nat.zero_le _) (c_RB_laneOf (nI a) z) (fun E n' C' _ h => by cases h) (fun v n' C' _ h => ?_)
  cases h
  refine gj_aload_n d_RB_priceNow_12 rfl ?_
  refine gj_get d_RB_priceNow_13 gf_RB_19 o1 rfl ?_
  refine gj_aload_n d_RB_priceNow_16 rfl ?_
  refine gj_iload_n d_RB_priceNow_17 rfl ?_
  refine gj_callV (as := [.ref (y), .int (nI a)]) (rest := [.int (nI a * 10 + z), .ref (x)]) (K1 := 0) (N1 := 0) d_RB_priceNow_18 mo_Ra_weightToPay gw_409 gw_410 gw_411 hx rfl pl_Ra_weightToPay (Nat.le_of_ble_eq_true rfl) (Nat.le_of_ble_eq_true rfl) (Nat.zero_le _) (Nat.zero_le _) (c_Ra_weightToPay hx hdv hy ha h0) (fun E n' C' _ h => by cases h) (fun v n' C' _ h => ?_)
  cases h
  refine gj_callV (as := [.int (nI a * 10 + z), .int (pr_w (dv a) g v)]) (rest := []) (K1 := 0) (N1 := 0) d_RB_priceNow_21 mo_Ra_stepFor gw_448 gw_449 gw_450 hx rfl pl_Ra_stepFor (Nat.le_of_ble_eq_true rfl) (Nat.le_of_ble_eq_true rfl) (Nat.zero_le _) (Nat.zero_le _) (c_Ra_stepFor hx hla hut h60) (fun E n' C' _ h => by cases h) (fun v n' C' _ h => ?_)
  cases h
  refine gj_top hs ?_
  refine gj_istore_n d_RB_priceNow_24 (by decide) ?_
  refine gj_iload_n d_RB_priceNow_25 rfl ?_
  refine gj_kc (v := (-1)) d_RB_priceNow_26 (by decide) ?_
  refine gj_icmp_ne (tgt := 32) d_RB_priceNow_27 (by decide) (fun h27 => ?_) (fun h27 => absurd h27 (nI_m1 (by omega)))
  refine gj_aload_n d_RB_priceNow_32 rfl ?_
  refine gj_get d_RB_priceNow_33 gf_RB_19 o1 rfl ?_
  refine gj_iload_n d_RB_priceNow_36 rfl ?_
  refine gj_iload_n d_RB_priceNow_37 rfl ?_
  refine gj_callV (as := [.int (nI i), .int (nI a)]) (rest := []) (K1 := 0) (N1 := 0) d_RB_priceNow_38 mo_Ra_charged gw_452 gw_453 gw_454 hx rfl pl_Ra_charged (Nat.le_of_ble_eq_true rfl) (Nat.le_of_ble_eq_true rfl) (Nat.zero_le _) (Nat.zero_le _) (c_Ra_charged hx hce hmi hfu hfd ha hi hf) (fun E n' C' _ h => by cases h) (fun v n' C' _ h => ?_)
  cases h
  refine gj_lstore d_RB_priceNow_41 (by decide) ?_
  refine gj_aload_n d_RB_priceNow_43 rfl ?_
  refine gj_get d_RB_priceNow_44 gf_RB_38 o1 rfl ?_
  refine gj_iload_n d_RB_priceNow_47 rfl ?_
  refine gj_aald d_RB_priceNow_48 o24 rfl (vp_in_nI (by omega) (by decide)) ?_
  refine gj_topv (v := .ref (25 + 4 * a)) (by rw [nI_clamp (by omega), hco]; rfl) ?_
  refine gj_astore d_RB_priceNow_49 (by decide) ?_
  refine gj_aload d_RB_priceNow_51 rfl ?_
  refine gj_aload_n d_RB_priceNow_53 rfl ?_
  refine gj_get d_RB_priceNow_54 gf_RB_45 o1 rfl ?_
  refine gj_iload_n d_RB_priceNow_57 rfl ?_
  refine gj_iald d_RB_priceNow_58 o65 rfl (vp_in_nI (by omega) (by decide)) ?_
  refine gj_top (y := bk (a)) (congrArg bk (nI_clamp (by omega))) ?_
  refine gj_callV (as := [.int (bk (a))]) (rest := []) (K1 := 0) (N1 := 0) d_RB_priceNow_59 mo_Ro_latest gw_459 gw_460 gw_461 r0 rfl pl_Ro_latest (Nat.le_of_ble_eq_true rfl) (Nat.le_of_ble_eq_true rfl) (Nat.zero_le _) (Nat.zero_le _) (c_Ro_latest r0 r1 hsz (by omega)) (fun E n' C' _ h => by cases h) (fun v n' C' _ h => ?_)
  cases h
  rcases ho : pf_la fr (bk a) sz 0 none with _ | p
  · refine gj_top (y := -1) rfl ?_
    refine gj_istore d_RB_priceNow_62 (by decide) ?_
    refine gj_iload d_RB_priceNow_64 rfl ?_
    refine gj_kc (v := (-1)) d_RB_priceNow_66 (by decide) ?_
    refine gj_icmp_eq (tgt := 96) d_RB_priceNow_67 (by decide) (fun h67 => ?_) (fun h67 => absurd (rfl) h67)
    refine gj_lload d_RB_priceNow_96 rfl ?_
    refine gj_l2i d_RB_priceNow_98 ?_
    refine gj_iret rfl (Nat.zero_le _) (Nat.zero_le _) d_RB_priceNow_99 ?_
    exact rfl
  · have hp := pf_la_lt fr (bk a) sz 0 none (fun _ h => nomatch h) p ho
    refine gj_top (y := nI p) rfl ?_
    refine gj_istore d_RB_priceNow_62 (by decide) ?_
    refine gj_iload d_RB_priceNow_64 rfl ?_
    refine gj_kc (v := (-1)) d_RB_priceNow_66 (by decide) ?_
    refine gj_icmp_eq (tgt := 96) d_RB_priceNow_67 (by decide) (fun h67 => absurd h67 (nI_m1 (by omega))) (fun h67 => ?_)
    refine gj_lload d_RB_priceNow_70 rfl ?_
    refine gj_aload d_RB_priceNow_72 rfl ?_
    refine gj_get d_RB_priceNow_74 gf_RB_177 r0 rfl ?_
    refine gj_iload d_RB_priceNow_77 rfl ?_
    refine gj_iald d_RB_priceNow_79 r2 rfl (vp_in_nI (by omega) (by decide)) ?_
    refine gj_top (y := up (p)) (congrArg up (nI_clamp (by omega))) ?_
    refine gj_i2l d_RB_priceNow_80 ?_
    refine gj_lmul d_RB_priceNow_81 ?_
    refine gj_aload d_RB_priceNow_82 rfl ?_
    refine gj_get d_RB_priceNow_84 gf_RB_180 r0 rfl ?_
    refine gj_iload d_RB_priceNow_87 rfl ?_
    refine gj_iald d_RB_priceNow_89 r3 rfl (vp_in_nI (by omega) (by decide)) ?_
    refine gj_top (y := dn (p)) (congrArg dn (nI_clamp (by omega))) ?_
    refine gj_i2l d_RB_priceNow_90 ?_
    refine gj_callS (as := [.long ((pr_ch (ce i) (fu a) (fd a) (mi a)) * ((up (p) : Int32).toInt64)), .long ((dn (p) : Int32).toInt64)]) (rest := []) (K1 := 0) (N1 := 0) d_RB_priceNow_91 mo_RB_dividedUp gw_463 gw_414 gw_20 pl_RB_dividedUp (Nat.le_of_ble_eq_true rfl) (Nat.le_of_ble_eq_true rfl) (Nat.zero_le _) (Nat.zero_le _) (c_RB_dividedUp (l64_ne0 (hdn p (by omega)))) (fun E n' C' _ h => by cases h) (fun v n' C' _ h => ?_)
    cases h
    refine gj_lstore d_RB_priceNow_94 (by decide) ?_
    refine gj_lload d_RB_priceNow_96 rfl ?_
    refine gj_l2i d_RB_priceNow_98 ?_
    refine gj_iret rfl (Nat.zero_le _) (Nat.zero_le _) d_RB_priceNow_99 ?_
    exact rfl
