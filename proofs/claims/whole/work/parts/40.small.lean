/-- needWithin, within -/
theorem c_RB_needWithin {d K N n : Nat} {C : Nat → va_E} {v a b : Int32} (g1 : a ≤ v) (g2 : v ≤ b) : gj_G md_RB_needWithin d K N 0 0 0 [(0, .int v), (1, .int a), (2, .int b)] [] n C (fun r => r = (.inl none, n, C)) := by
  refine gj_iload_n d_RB_needWithin_0 rfl ?_
  refine gj_iload_n d_RB_needWithin_1 rfl ?_
  refine gj_icmp_lt (tgt := 10) d_RB_needWithin_2 (by decide) (fun h2 => absurd h2 (Int32.not_lt.mpr g1)) (fun h2 => ?_)
  refine gj_iload_n d_RB_needWithin_5 rfl ?_
  refine gj_iload_n d_RB_needWithin_6 rfl ?_
  refine gj_icmp_le (tgt := 20) d_RB_needWithin_7 (by decide) (fun h7 => ?_) (fun h7 => absurd (g2) h7)
  refine gj_vret rfl (Nat.zero_le _) (Nat.zero_le _) d_RB_needWithin_20 ?_
  exact rfl
/-- needWithin, outside -/
theorem c_RB_needWithin_x {d K N n : Nat} {C : Nat → va_E} {v a b : Int32} (hK : 1 ≤ K) (hN : 6 ≤ N) (g1 : ¬ (a ≤ v ∧ v ≤ b)) : gj_G md_RB_needWithin d K N 0 0 0 [(0, .int v), (1, .int a), (2, .int b)] [] n C (fun r => r = (.inr "java/lang/IllegalArgumentException", n, C)) := by
  refine gj_iload_n d_RB_needWithin_0 rfl ?_
  refine gj_iload_n d_RB_needWithin_1 rfl ?_
  refine gj_icmp_lt (tgt := 10) d_RB_needWithin_2 (by decide) (fun h2 => ?_) (fun h2 => ?_)
  · refine gj_throw2 tk_RB_needWithin_10 d_RB_needWithin_10 d_RB_needWithin_13 d_RB_needWithin_14 d_RB_needWithin_16 d_RB_needWithin_19 rfl (Nat.le_of_ble_eq_true rfl) (by omega) (by omega) ?_
    exact rfl
  · refine gj_iload_n d_RB_needWithin_5 rfl ?_
    refine gj_iload_n d_RB_needWithin_6 rfl ?_
    refine gj_icmp_le (tgt := 20) d_RB_needWithin_7 (by decide) (fun h7 => absurd h7 (fun h => g1 ⟨Int32.not_lt.mp h2, h⟩)) (fun h7 => ?_)
    refine gj_throw2 tk_RB_needWithin_10 d_RB_needWithin_10 d_RB_needWithin_13 d_RB_needWithin_14 d_RB_needWithin_16 d_RB_needWithin_19 rfl (Nat.le_of_ble_eq_true rfl) (by omega) (by omega) ?_
    exact rfl
/-- needService, there -/
theorem c_RB_needService {d K N n : Nat} {C : Nat → va_E} {v : Int32} (g1 : 0 ≤ v) (g2 : v < 10) : gj_G md_RB_needService d K N 0 0 0 [(0, .int v)] [] n C (fun r => r = (.inl none, n, C)) := by
  refine gj_iload_n d_RB_needService_0 rfl ?_
  refine gj_if_lt (tgt := 10) d_RB_needService_1 (by decide) (fun h1 => absurd h1 (Int32.not_lt.mpr g1)) (fun h1 => ?_)
  refine gj_iload_n d_RB_needService_4 rfl ?_
  refine gj_kb (v := 10) d_RB_needService_5 (by decide) ?_
  refine gj_icmp_lt (tgt := 20) d_RB_needService_7 (by decide) (fun h7 => ?_) (fun h7 => absurd (g2) h7)
  refine gj_vret rfl (Nat.zero_le _) (Nat.zero_le _) d_RB_needService_20 ?_
  exact rfl
/-- needService, not there -/
theorem c_RB_needService_x {d K N n : Nat} {C : Nat → va_E} {v : Int32} (hK : 1 ≤ K) (hN : 6 ≤ N) (g1 : ¬ (0 ≤ v ∧ v < 10)) : gj_G md_RB_needService d K N 0 0 0 [(0, .int v)] [] n C (fun r => r = (.inr "java/lang/IllegalArgumentException", n, C)) := by
  refine gj_iload_n d_RB_needService_0 rfl ?_
  refine gj_if_lt (tgt := 10) d_RB_needService_1 (by decide) (fun h1 => ?_) (fun h1 => ?_)
  · refine gj_throw2 tk_RB_needService_10 d_RB_needService_10 d_RB_needService_13 d_RB_needService_14 d_RB_needService_16 d_RB_needService_19 rfl (Nat.le_of_ble_eq_true rfl) (by omega) (by omega) ?_
    exact rfl
  · refine gj_iload_n d_RB_needService_4 rfl ?_
    refine gj_kb (v := 10) d_RB_needService_5 (by decide) ?_
    refine gj_icmp_lt (tgt := 20) d_RB_needService_7 (by decide) (fun h7 => absurd h7 (fun h => g1 ⟨Int32.not_lt.mp h1, h⟩)) (fun h7 => ?_)
    refine gj_throw2 tk_RB_needService_10 d_RB_needService_10 d_RB_needService_13 d_RB_needService_14 d_RB_needService_16 d_RB_needService_19 rfl (Nat.le_of_ble_eq_true rfl) (by omega) (by omega) ?_
    exact rfl
/-- laneOf -/
theorem c_RB_laneOf {d K N n : Nat} {C : Nat → va_E} (a b : Int32) : gj_G md_RB_laneOf d K N 0 0 0 [(0, .int a), (1, .int b)] [] n C (fun r => r = (.inl (some (.int (a * 10 + b))), n, C)) := by
  refine gj_iload_n d_RB_laneOf_0 rfl ?_
  refine gj_kb (v := 10) d_RB_laneOf_1 (by decide) ?_
  refine gj_imul d_RB_laneOf_3 ?_
  refine gj_iload_n d_RB_laneOf_4 rfl ?_
  refine gj_iadd d_RB_laneOf_5 ?_
  refine gj_iret rfl (Nat.zero_le _) (Nat.zero_le _) d_RB_laneOf_6 ?_
  exact rfl
/-- isBooked -/
theorem c_Sh_isBooked {d K N n x : Nat} {C : Nat → va_E} {z g v s c l : Int32} (hx : C x = .inr (4, [.int (z), .int (g), .int (v), .int (s), .int (c), .int (l)])) : gj_G md_Sh_isBooked d K N 0 0 0 [(0, .ref x)] [] n C (fun r => r = (.inl (some (.int (if s = -1 then 0 else 1))), n, C)) := by
  refine gj_aload_n d_Sh_isBooked_0 rfl ?_
  refine gj_get d_Sh_isBooked_1 gf_Sh_9 hx rfl ?_
  refine gj_kc (v := (-1)) d_Sh_isBooked_4 (by decide) ?_
  refine gj_icmp_eq (tgt := 12) d_Sh_isBooked_5 (by decide) (fun h5 => ?_) (fun h5 => ?_)
  · refine gj_kc (v := 0) d_Sh_isBooked_12 (by decide) ?_
    refine gj_zret rfl (by first | exact Or.inl rfl | exact Or.inr rfl) (Nat.zero_le _) (Nat.zero_le _) d_Sh_isBooked_13 ?_
    exact gj_ei (if_pos h5).symm
  · refine gj_kc (v := 1) d_Sh_isBooked_8 (by decide) ?_
    refine gj_goto (tgt := 13) d_Sh_isBooked_9 (by decide) ?_
    refine gj_zret rfl (by first | exact Or.inl rfl | exact Or.inr rfl) (Nat.zero_le _) (Nat.zero_le _) d_Sh_isBooked_13 ?_
    exact gj_ei (if_neg h5).symm
/-- isInvoiced -/
theorem c_Sh_isInvoiced {d K N n x : Nat} {C : Nat → va_E} {z g v s c l : Int32} (hx : C x = .inr (4, [.int (z), .int (g), .int (v), .int (s), .int (c), .int (l)])) : gj_G md_Sh_isInvoiced d K N 0 0 0 [(0, .ref x)] [] n C (fun r => r = (.inl (some (.int (if l = -1 then 0 else 1))), n, C)) := by
  refine gj_aload_n d_Sh_isInvoiced_0 rfl ?_
  refine gj_get d_Sh_isInvoiced_1 gf_Sh_18 hx rfl ?_
  refine gj_kc (v := (-1)) d_Sh_isInvoiced_4 (by decide) ?_
  refine gj_icmp_eq (tgt := 12) d_Sh_isInvoiced_5 (by decide) (fun h5 => ?_) (fun h5 => ?_)
  · refine gj_kc (v := 0) d_Sh_isInvoiced_12 (by decide) ?_
    refine gj_zret rfl (by first | exact Or.inl rfl | exact Or.inr rfl) (Nat.zero_le _) (Nat.zero_le _) d_Sh_isInvoiced_13 ?_
    exact gj_ei (if_pos h5).symm
  · refine gj_kc (v := 1) d_Sh_isInvoiced_8 (by decide) ?_
    refine gj_goto (tgt := 13) d_Sh_isInvoiced_9 (by decide) ?_
    refine gj_zret rfl (by first | exact Or.inl rfl | exact Or.inr rfl) (Nat.zero_le _) (Nat.zero_le _) d_Sh_isInvoiced_13 ?_
    exact gj_ei (if_neg h5).symm
/-- dividedDown -/
theorem c_RB_dividedDown {d K N n : Nat} {C : Nat → va_E} {a b : Int64} (hb : ¬ b = 0) : gj_G md_RB_dividedDown d K N 0 0 0 [(0, .long a), (2, .long b)] [] n C (fun r => r = (.inl (some (.long (a / b))), n, C)) := by
  refine gj_lload_n d_RB_dividedDown_0 rfl ?_
  refine gj_kl (v := 0) d_RB_dividedDown_1 (by decide) ?_
  refine gj_lcmp d_RB_dividedDown_2 ?_
  refine gj_if_ne (tgt := 16) d_RB_dividedDown_3 (by decide) (fun h3 => ?_) (fun h3 => absurd h3 (fun h => hb ((lg_cmp_eq _ _).mp h)))
  refine gj_lload_n d_RB_dividedDown_16 rfl ?_
  refine gj_lload_n d_RB_dividedDown_17 rfl ?_
  refine gj_ldiv d_RB_dividedDown_18 (hb) ?_
  refine gj_lret rfl (Nat.zero_le _) (Nat.zero_le _) d_RB_dividedDown_19 ?_
  exact rfl
/-- dividedDown by 0 -/
theorem c_RB_dividedDown_x {d K N n : Nat} {C : Nat → va_E} {a b : Int64} (hK : 1 ≤ K) (hN : 6 ≤ N) (hb : b = 0) : gj_G md_RB_dividedDown d K N 0 0 0 [(0, .long a), (2, .long b)] [] n C (fun r => r = (.inr "java/lang/ArithmeticException", n, C)) := by
  refine gj_lload_n d_RB_dividedDown_0 rfl ?_
  refine gj_kl (v := 0) d_RB_dividedDown_1 (by decide) ?_
  refine gj_lcmp d_RB_dividedDown_2 ?_
  refine gj_if_ne (tgt := 16) d_RB_dividedDown_3 (by decide) (fun h3 => absurd ((lg_cmp_eq _ _).mpr hb) h3) (fun h3 => ?_)
  refine gj_throw2 tk_RB_dividedDown_6 d_RB_dividedDown_6 d_RB_dividedDown_9 d_RB_dividedDown_10 d_RB_dividedDown_12 d_RB_dividedDown_15 rfl (Nat.le_of_ble_eq_true rfl) (by omega) (by omega) ?_
  exact rfl
/-- dividedUp -/
theorem c_RB_dividedUp {d K N n : Nat} {C : Nat → va_E} {a b : Int64} (hb : ¬ b = 0) : gj_G md_RB_dividedUp (d + 1) K N 0 0 0 [(0, .long a), (2, .long b)] [] n C (fun r => r = (.inl (some (.long ((a + b - 1) / b))), n, C)) := by
  refine gj_lload_n d_RB_dividedUp_0 rfl ?_
  refine gj_lload_n d_RB_dividedUp_1 rfl ?_
  refine gj_ladd d_RB_dividedUp_2 ?_
  refine gj_kl (v := 1) d_RB_dividedUp_3 (by decide) ?_
  refine gj_lsub d_RB_dividedUp_4 ?_
  refine gj_lload_n d_RB_dividedUp_5 rfl ?_
  refine gj_callS (as := [.long (((a) + (b)) - (1)), .long (b)]) (rest := []) (K1 := 0) (N1 := 0) d_RB_dividedUp_6 mo_RB_dividedDown gw_416 gw_417 gw_20 pl_RB_dividedDown (Nat.le_of_ble_eq_true rfl) (Nat.le_of_ble_eq_true rfl) (Nat.zero_le _) (Nat.zero_le _) (c_RB_dividedDown hb) (fun E n' C' _ h => by cases h) (fun v n' C' _ h => ?_)
  cases h
  refine gj_lret rfl (Nat.zero_le _) (Nat.zero_le _) d_RB_dividedUp_9 ?_
  exact rfl
/-- dividedUp by 0 -/
theorem c_RB_dividedUp_x {d K N n : Nat} {C : Nat → va_E} {a b : Int64} (hK : 1 ≤ K) (hN : 6 ≤ N) (hb : b = 0) : gj_G md_RB_dividedUp (d + 1) K N 0 0 0 [(0, .long a), (2, .long b)] [] n C (fun r => r = (.inr "java/lang/ArithmeticException", n, C)) := by
  refine gj_lload_n d_RB_dividedUp_0 rfl ?_
  refine gj_lload_n d_RB_dividedUp_1 rfl ?_
  refine gj_ladd d_RB_dividedUp_2 ?_
  refine gj_kl (v := 1) d_RB_dividedUp_3 (by decide) ?_
  refine gj_lsub d_RB_dividedUp_4 ?_
  refine gj_lload_n d_RB_dividedUp_5 rfl ?_
  refine gj_callS (as := [.long (((a) + (b)) - (1)), .long (b)]) (rest := []) (K1 := 1) (N1 := 6) d_RB_dividedUp_6 mo_RB_dividedDown gw_416 gw_417 gw_20 pl_RB_dividedDown (Nat.le_of_ble_eq_true rfl) (Nat.le_of_ble_eq_true rfl) (by omega) (by omega) (c_RB_dividedDown_x (Nat.le_refl 1) (Nat.le_refl 6) hb) (fun E n6 C6 g6 q6 => ?_) (fun v n' C' _ h => by cases h)
  cases q6
  exact gj_xout rfl (by omega) (by omega) rfl
theorem c_Ra_stepFor_loop {d K N n x li sp : Nat} {C : Nat → va_E} {la ut : Nat → Int32} (hx : C (x) = .inr (2, [.ref (x + 1), .ref (x + 2), .ref (x + 3), .ref (x + 4), .ref (x + 5), .ref (x + 6), .ref (x + 7), .ref (x + 8), .int (nI li), .int (nI sp)])) (hla : C (x + 1) = .inl (0, 60, .inl la)) (hut : C (x + 3) = .inl (0, 60, .inl ut)) (h60 : sp ≤ 60) {l w : Int32} {Q : gj_R → Prop} : ∀ (m i : Nat), i + m = sp → Q (gj_iv (pr_st la ut l w m i), n, C) → gj_G md_Ra_stepFor d K N 0 0 2 [(0, .ref x), (1, .int l), (2, .int w), (3, .int (nI i))] [] n C Q := by
  intro m
  induction m with
  | zero =>
    intro i hi hend
    have hi : i = sp := hi
    subst hi
    refine gj_iload_n d_Ra_stepFor_2 rfl ?_
    refine gj_aload_n d_Ra_stepFor_3 rfl ?_
    refine gj_get d_Ra_stepFor_4 gf_Ra_43 hx rfl ?_
    refine gj_icmp_ge (tgt := 38) d_Ra_stepFor_7 (by decide) (fun _ => ?_) (fun h26 => absurd (nI_le (Nat.le_refl i) (by omega)) h26)
    refine gj_kc (v := (-1)) d_Ra_stepFor_38 (by decide) ?_
    exact gj_iret rfl (Nat.zero_le _) (Nat.zero_le _) d_Ra_stepFor_39 hend
  | succ m ih =>
    intro i hi hend
    refine gj_iload_n d_Ra_stepFor_2 rfl ?_
    refine gj_aload_n d_Ra_stepFor_3 rfl ?_
    refine gj_get d_Ra_stepFor_4 gf_Ra_43 hx rfl ?_
    refine gj_icmp_ge (tgt := 38) d_Ra_stepFor_7 (by decide) (fun h7 => absurd h7 (nI_ge (by omega) (by omega))) (fun h7 => ?_)
    refine gj_aload_n d_Ra_stepFor_10 rfl ?_
    refine gj_get d_Ra_stepFor_11 gf_Ra_9 hx rfl ?_
    refine gj_iload_n d_Ra_stepFor_14 rfl ?_
    refine gj_iald d_Ra_stepFor_15 hla rfl (vp_in_nI (by omega) (by decide)) ?_
    refine gj_top (y := la (i)) (congrArg la (nI_clamp (by omega))) ?_
    refine gj_iload_n d_Ra_stepFor_16 rfl ?_
    refine gj_icmp_ne (tgt := 32) d_Ra_stepFor_17 (by decide) (fun h17 => ?_) (fun h17 => ?_)
    · refine gj_iinc d_Ra_stepFor_32 rfl (by decide) ?_
      refine gj_goto (tgt := 2) d_Ra_stepFor_35 (by decide) ?_
      refine gj_less (lc' := [(0, .ref (x)), (1, .int l), (2, .int w), (3, .int (nI i + 1))]) ⟨rfl, rfl, rfl, rfl, trivial⟩ ?_
      rw [nI_1]
      refine ih (i + 1) (by omega) ?_
      unfold pr_st at hend
      rw [if_neg (fun h => by first | exact h17 h.1 | exact Int32.not_lt.mpr h.2 h27)] at hend
      exact hend
    · refine gj_aload_n d_Ra_stepFor_20 rfl ?_
      refine gj_get d_Ra_stepFor_21 gf_Ra_18 hx rfl ?_
      refine gj_iload_n d_Ra_stepFor_24 rfl ?_
      refine gj_iald d_Ra_stepFor_25 hut rfl (vp_in_nI (by omega) (by decide)) ?_
      refine gj_top (y := ut (i)) (congrArg ut (nI_clamp (by omega))) ?_
      refine gj_iload_n d_Ra_stepFor_26 rfl ?_
      refine gj_icmp_lt (tgt := 32) d_Ra_stepFor_27 (by decide) (fun h27 => ?_) (fun h27 => ?_)
      · refine gj_iinc d_Ra_stepFor_32 rfl (by decide) ?_
        refine gj_goto (tgt := 2) d_Ra_stepFor_35 (by decide) ?_
        refine gj_less (lc' := [(0, .ref (x)), (1, .int l), (2, .int w), (3, .int (nI i + 1))]) ⟨rfl, rfl, rfl, rfl, trivial⟩ ?_
        rw [nI_1]
        refine ih (i + 1) (by omega) ?_
        unfold pr_st at hend
        rw [if_neg (fun h => by first | exact h17 h.1 | exact Int32.not_lt.mpr h.2 h27)] at hend
        exact hend
      · refine gj_iload_n d_Ra_stepFor_30 rfl ?_
        refine gj_iret rfl (Nat.zero_le _) (Nat.zero_le _) d_Ra_stepFor_31 ?_
        unfold pr_st at hend
        rw [if_pos ⟨h17, Int32.not_lt.mp h27⟩] at hend
        exact hend
theorem c_Ra_stepFor {d K N n x li sp : Nat} {C : Nat → va_E} {la ut : Nat → Int32} (hx : C (x) = .inr (2, [.ref (x + 1), .ref (x + 2), .ref (x + 3), .ref (x + 4), .ref (x + 5), .ref (x + 6), .ref (x + 7), .ref (x + 8), .int (nI li), .int (nI sp)])) (hla : C (x + 1) = .inl (0, 60, .inl la)) (hut : C (x + 3) = .inl (0, 60, .inl ut)) (h60 : sp ≤ 60) {l w : Int32} : gj_G md_Ra_stepFor d K N 0 0 0 [(0, .ref x), (1, .int l), (2, .int w)] [] n C (fun r => r = (gj_iv (pr_st la ut l w sp 0), n, C)) := by
  refine gj_kc (v := 0) d_Ra_stepFor_0 (by decide) ?_
  refine gj_istore_n d_Ra_stepFor_1 (by decide) ?_
  refine gj_less (lc' := [(0, .ref (x)), (1, .int l), (2, .int w), (3, .int (nI 0))]) ⟨rfl, rfl, rfl, rfl, trivial⟩ ?_
  exact c_Ra_stepFor_loop hx hla hut h60 sp 0 (by omega) rfl
/-- takeOnce: taken -/
theorem c_Ra_takeOnce {d K N n y j : Nat} {C : Nat → va_E} {r : Nat → Int32} {v m : Int32} (hy : C y = .inl (0, 10, .inl r)) (g1 : j < 10) (g2 : r j = -1) (g3 : v ≤ m) : gj_G md_Ra_takeOnce d K N 0 0 0 [(0, .ref y), (1, .int (nI j)), (2, .int v), (3, .int m)] [] n C (fun q => q.1 = gj_iv 1 ∧ q.2.1 = n ∧ q.2.2 y = .inl (0, 10, .inl (upd r j v)) ∧ ∀ z, z ≠ y → q.2.2 z = C z) := by
  refine gj_iload_n d_Ra_takeOnce_0 rfl ?_
  refine gj_if_lt (tgt := 22) d_Ra_takeOnce_1 (by decide) (fun h1 => absurd h1 (nI_pos (by omega))) (fun h1 => ?_)
  refine gj_iload_n d_Ra_takeOnce_4 rfl ?_
  refine gj_aload_n d_Ra_takeOnce_5 rfl ?_
  refine gj_alen d_Ra_takeOnce_6 hy rfl ?_
  refine gj_icmp_ge (tgt := 22) d_Ra_takeOnce_7 (by decide) (fun h7 => absurd h7 (nI_ge (b := 10) g1 (by decide))) (fun h7 => ?_)
  refine gj_aload_n d_Ra_takeOnce_10 rfl ?_
  refine gj_iload_n d_Ra_takeOnce_11 rfl ?_
  refine gj_iald d_Ra_takeOnce_12 hy rfl (vp_in_nI (by omega) (by decide)) ?_
  refine gj_top (y := r (j)) (congrArg r (nI_clamp (by omega))) ?_
  refine gj_kc (v := (-1)) d_Ra_takeOnce_13 (by decide) ?_
  refine gj_icmp_ne (tgt := 22) d_Ra_takeOnce_14 (by decide) (fun h14 => absurd (g2) h14) (fun h14 => ?_)
  refine gj_iload_n d_Ra_takeOnce_17 rfl ?_
  refine gj_iload_n d_Ra_takeOnce_18 rfl ?_
  refine gj_icmp_le (tgt := 24) d_Ra_takeOnce_19 (by decide) (fun h19 => ?_) (fun h19 => absurd (g3) h19)
  refine gj_aload_n d_Ra_takeOnce_24 rfl ?_
  refine gj_iload_n d_Ra_takeOnce_25 rfl ?_
  refine gj_iload_n d_Ra_takeOnce_26 rfl ?_
  refine gj_iast d_Ra_takeOnce_27 hy rfl (vp_in_nI (by omega) (by decide)) ?_
  obtain ⟨C1, eC1⟩ : ∃ z, z = va_up C (y) (.inl (0, 10, .inl (upd r (j) (v)))) := ⟨_, rfl⟩
  refine gj_mem (eC1.trans (by rw [nI_clamp (by omega)])) ?_
  have f2 : C1 (y) = .inl (0, 10, .inl (upd r (j) (v))) := by rw [eC1]; exact va_up_self _ _ _
  refine gj_kc (v := 1) d_Ra_takeOnce_28 (by decide) ?_
  refine gj_zret rfl (by first | exact Or.inl rfl | exact Or.inr rfl) (Nat.zero_le _) (Nat.zero_le _) d_Ra_takeOnce_29 ?_
  exact ⟨rfl, rfl, f2, fun z hz => by rw [eC1]; exact va_up_ne _ _ hz⟩
/-- takeOnce: not taken -/
theorem c_Ra_takeOnce_no {d K N n y j : Nat} {C : Nat → va_E} {r : Nat → Int32} {v m : Int32} (hy : C y = .inl (0, 10, .inl r)) (hj : j < 2 ^ 31) (g1 : ¬ (j < 10 ∧ r j = -1 ∧ v ≤ m)) : gj_G md_Ra_takeOnce d K N 0 0 0 [(0, .ref y), (1, .int (nI j)), (2, .int v), (3, .int m)] [] n C (fun q => q = (gj_iv 0, n, C)) := by
  refine gj_iload_n d_Ra_takeOnce_0 rfl ?_
  refine gj_if_lt (tgt := 22) d_Ra_takeOnce_1 (by decide) (fun h1 => absurd h1 (nI_pos hj)) (fun h1 => ?_)
  refine gj_iload_n d_Ra_takeOnce_4 rfl ?_
  refine gj_aload_n d_Ra_takeOnce_5 rfl ?_
  refine gj_alen d_Ra_takeOnce_6 hy rfl ?_
  refine gj_icmp_ge (tgt := 22) d_Ra_takeOnce_7 (by decide) (fun _ => ?_) (fun h7 => ?_)
  · refine gj_kc (v := 0) d_Ra_takeOnce_22 (by decide) ?_
    refine gj_zret rfl (by first | exact Or.inl rfl | exact Or.inr rfl) (Nat.zero_le _) (Nat.zero_le _) d_Ra_takeOnce_23 ?_
    exact rfl
  · have g2 : j < 10 := Nat.lt_of_not_le (fun q => h7 (nI_le (a := 10) q hj))
    refine gj_aload_n d_Ra_takeOnce_10 rfl ?_
    refine gj_iload_n d_Ra_takeOnce_11 rfl ?_
    refine gj_iald d_Ra_takeOnce_12 hy rfl (vp_in_nI (by omega) (by decide)) ?_
    refine gj_top (y := r (j)) (congrArg r (nI_clamp (by omega))) ?_
    refine gj_kc (v := (-1)) d_Ra_takeOnce_13 (by decide) ?_
    refine gj_icmp_ne (tgt := 22) d_Ra_takeOnce_14 (by decide) (fun h14 => ?_) (fun h14 => ?_)
    · refine gj_kc (v := 0) d_Ra_takeOnce_22 (by decide) ?_
      refine gj_zret rfl (by first | exact Or.inl rfl | exact Or.inr rfl) (Nat.zero_le _) (Nat.zero_le _) d_Ra_takeOnce_23 ?_
      exact rfl
    · refine gj_iload_n d_Ra_takeOnce_17 rfl ?_
      refine gj_iload_n d_Ra_takeOnce_18 rfl ?_
      refine gj_icmp_le (tgt := 24) d_Ra_takeOnce_19 (by decide) (fun h19 => absurd h19 (fun h => g1 ⟨g2, h14, h⟩)) (fun h19 => ?_)
      refine gj_kc (v := 0) d_Ra_takeOnce_22 (by decide) ?_
      refine gj_zret rfl (by first | exact Or.inl rfl | exact Or.inr rfl) (Nat.zero_le _) (Nat.zero_le _) d_Ra_takeOnce_23 ?_
      exact rfl
