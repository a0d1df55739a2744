/-! RateBreaksModel: toPay, priceOf -/
def pm_tp (lr : Nat → Int32) (g v : Int32) : Option Nat → Int32
  | none => g
  | some k => if lr (5 * k + 2) = 0 then -1 else if (v + lr (5 * k + 2) - 1) / lr (5 * k + 2) ≤ g then g else (v + lr (5 * k + 2) - 1) / lr (5 * k + 2)
def pm_fu (lr : Nat → Int32) (c : Int32) : Option Nat → Int32
  | none => c
  | some k => c + (pr_up (c.toInt64 * (lr (5 * k + 2)).toInt64) (lr (5 * k + 3)).toInt64).toInt32
def pm_mi (lr : Nat → Int32) (c : Int32) : Option Nat → Int32
  | none => c
  | some k => if lr (5 * k + 2) ≤ c then c else lr (5 * k + 2)
def pm_pt (c : Int32) (up dn : Nat → Int32) (a : Nat) : Option Nat → Int32
  | none => c
  | some p => (pr_up (c.toInt64 * (up (4 * a + p)).toInt64) (dn (4 * a + p)).toInt64).toInt32
set_option maxHeartbeats 2000000 in
theorem c_Mo_toPay {d K N n sg li nl ap ns dy : Nat} {tc : Int32} {C : Nat → va_E} {lr gr vo : Nat → Int32} (m70 : C (70) = .inr (5, [.int (tc), .ref (71), .int (nI sg), .int (nI li), .ref (72), .int (nI nl), .ref (73), .int (nI ap), .int (nI ns), .ref (74), .ref (75), .ref (76), .ref (77), .ref (78), .ref (79), .ref (80), .ref (81), .ref (82), .ref (83), .ref (84), .int (nI dy), .ref (85), .ref (86), .ref (87), .ref (88), .ref (89), .ref (90)])) (m72 : C (72) = .inl (0, 300, .inl lr)) (m76 : C (76) = .inl (0, 20, .inl gr)) (m77 : C (77) = .inl (0, 20, .inl vo)) (hli : li ≤ 60) {j : Nat} (hj : j < 20) {a : Nat} : gj_G md_Mo_toPay (d + 1) K N 0 0 0 [(0, .ref (70)), (1, .int (nI j)), (2, .int (nI a))] [] (n) C (fun r => r = (gj_iv (pm_tp lr (gr j) (vo j) (pl_fd lr 68 (nI a) li 0)), n, C)) := by
  refine gj_aload_n d_Mo_toPay_0 rfl ?_
  refine gj_kb (v := 68) d_Mo_toPay_1 (by decide) ?_
  refine gj_iload_n d_Mo_toPay_3 rfl ?_
  refine gj_callV (as := [.int (68), .int (nI a)]) (rest := []) (K1 := 0) (N1 := 0) d_Mo_toPay_4 mo_Mo_find gw_733 gw_735 gw_16 m70 rfl pl_Mo_find (Nat.le_of_ble_eq_true rfl) (Nat.le_of_ble_eq_true rfl) (Nat.zero_le _) (Nat.zero_le _) (c_Mo_find m70 m72 hli) (fun E n' C' _ h => by cases h) (fun v n' C' _ h => ?_)
  cases h
  rcases hf68 : pl_fd lr 68 (nI a) li 0 with _ | k68
  · refine gj_top (y := -1) rfl ?_
    refine gj_istore_n d_Mo_toPay_7 (by decide) ?_
    refine gj_iload_n d_Mo_toPay_8 rfl ?_
    refine gj_if_ge (tgt := 19) d_Mo_toPay_9 (by decide) (fun h9 => absurd h9 (by decide)) (fun h9 => ?_)
    refine gj_aload_n d_Mo_toPay_12 rfl ?_
    refine gj_get d_Mo_toPay_13 gf_Mo_45 m70 rfl ?_
    refine gj_iload_n d_Mo_toPay_16 rfl ?_
    refine gj_iald d_Mo_toPay_17 m76 rfl (vp_in_nI (by omega) (by decide)) ?_
    refine gj_top (y := gr (j)) (congrArg gr (nI_clamp (by omega))) ?_
    refine gj_iret rfl (Nat.zero_le _) (Nat.zero_le _) d_Mo_toPay_18 ?_
    exact rfl
  · have hk68 := pl_fd_lt lr 68 (nI a) li 0 k68 hf68
    refine gj_top (y := nI (5 * k68)) rfl ?_
    refine gj_istore_n d_Mo_toPay_7 (by decide) ?_
    refine gj_iload_n d_Mo_toPay_8 rfl ?_
    refine gj_if_ge (tgt := 19) d_Mo_toPay_9 (by decide) (fun h9 => ?_) (fun h9 => by have m9 : ¬ (0 ≤ 5 * k68) := fun q => h9 ((nI_leI (a := 0) (b := 5 * k68) (by omega) (by omega)).mpr q); exact absurd (show 0 ≤ 5 * k68 from by omega) m9)
    have m9 : 0 ≤ 5 * k68 := (nI_leI (a := 0) (b := 5 * k68) (by omega) (by omega)).mp h9
    refine gj_aload_n d_Mo_toPay_19 rfl ?_
    refine gj_get d_Mo_toPay_20 gf_Mo_23 m70 rfl ?_
    refine gj_iload_n d_Mo_toPay_23 rfl ?_
    refine gj_kc (v := 2) d_Mo_toPay_24 (by decide) ?_
    refine gj_iadd d_Mo_toPay_25 ?_
    refine gj_top (y := nI ((5 * k68) + 2)) (nI_add (5 * k68) (2)) ?_
    refine gj_iald d_Mo_toPay_26 m72 rfl (vp_in_nI (by omega) (by decide)) ?_
    refine gj_top (y := lr ((5 * k68) + 2)) (congrArg lr (nI_clamp (by omega))) ?_
    refine gj_istore d_Mo_toPay_27 (by decide) ?_
    refine gj_iload d_Mo_toPay_29 rfl ?_
    refine gj_if_ne (tgt := 36) d_Mo_toPay_31 (by decide) (fun h31 => ?_) (fun h31 => ?_)
    · refine gj_aload_n d_Mo_toPay_36 rfl ?_
      refine gj_get d_Mo_toPay_37 gf_Mo_48 m70 rfl ?_
      refine gj_iload_n d_Mo_toPay_40 rfl ?_
      refine gj_iald d_Mo_toPay_41 m77 rfl (vp_in_nI (by omega) (by decide)) ?_
      refine gj_top (y := vo (j)) (congrArg vo (nI_clamp (by omega))) ?_
      refine gj_iload d_Mo_toPay_42 rfl ?_
      refine gj_iadd d_Mo_toPay_44 ?_
      refine gj_kc (v := 1) d_Mo_toPay_45 (by decide) ?_
      refine gj_isub d_Mo_toPay_46 ?_
      refine gj_iload d_Mo_toPay_47 rfl ?_
      refine gj_idiv d_Mo_toPay_49 (h31) ?_
      refine gj_istore d_Mo_toPay_50 (by decide) ?_
      refine gj_iload d_Mo_toPay_52 rfl ?_
      refine gj_aload_n d_Mo_toPay_54 rfl ?_
      refine gj_get d_Mo_toPay_55 gf_Mo_45 m70 rfl ?_
      refine gj_iload_n d_Mo_toPay_58 rfl ?_
      refine gj_iald d_Mo_toPay_59 m76 rfl (vp_in_nI (by omega) (by decide)) ?_
      refine gj_top (y := gr (j)) (congrArg gr (nI_clamp (by omega))) ?_
      refine gj_icmp_le (tgt := 68) d_Mo_toPay_60 (by decide) (fun h60 => ?_) (fun h60 => ?_)
      · refine gj_aload_n d_Mo_toPay_68 rfl ?_
        refine gj_get d_Mo_toPay_69 gf_Mo_45 m70 rfl ?_
        refine gj_iload_n d_Mo_toPay_72 rfl ?_
        refine gj_iald d_Mo_toPay_73 m76 rfl (vp_in_nI (by omega) (by decide)) ?_
        refine gj_top (y := gr (j)) (congrArg gr (nI_clamp (by omega))) ?_
        refine gj_iret rfl (Nat.zero_le _) (Nat.zero_le _) d_Mo_toPay_74 ?_
        exact gj_ei ((if_neg h31).trans (if_pos h60)).symm
      · refine gj_iload d_Mo_toPay_63 rfl ?_
        refine gj_goto (tgt := 74) d_Mo_toPay_65 (by decide) ?_
        refine gj_iret rfl (Nat.zero_le _) (Nat.zero_le _) d_Mo_toPay_74 ?_
        exact gj_ei ((if_neg h31).trans (if_neg h60)).symm
    · refine gj_kc (v := (-1)) d_Mo_toPay_34 (by decide) ?_
      refine gj_iret rfl (Nat.zero_le _) (Nat.zero_le _) d_Mo_toPay_35 ?_
      exact gj_ei (if_pos h31).symm
set_option maxHeartbeats 2000000 in
theorem c_Mo_priceOf_l1 {d K N n sg li nl ap ns dy : Nat} {tc : Int32} {C : Nat → va_E} {j a kk : Nat} {lr go zo gr vo se cn fm up dn : Nat → Int32} (m70 : C (70) = .inr (5, [.int (tc), .ref (71), .int (nI sg), .int (nI li), .ref (72), .int (nI nl), .ref (73), .int (nI ap), .int (nI ns), .ref (74), .ref (75), .ref (76), .ref (77), .ref (78), .ref (79), .ref (80), .ref (81), .ref (82), .ref (83), .ref (84), .int (nI dy), .ref (85), .ref (86), .ref (87), .ref (88), .ref (89), .ref (90)])) (m72 : C (72) = .inl (0, 300, .inl lr)) (m74 : C (74) = .inl (2, 20, .inl go)) (m75 : C (75) = .inl (0, 20, .inl zo)) (m76 : C (76) = .inl (0, 20, .inl gr)) (m77 : C (77) = .inl (0, 20, .inl vo)) (m78 : C (78) = .inl (0, 20, .inl se)) (m81 : C (81) = .inl (0, 10, .inl cn)) (m82 : C (82) = .inl (0, 40, .inl fm)) (m83 : C (83) = .inl (0, 40, .inl up)) (m84 : C (84) = .inl (0, 40, .inl dn)) (hli : li ≤ 60) (hns : ns ≤ 20) (hj : j < 20) (ha : a < 10) (hcn : cn a = nI kk) (hkk : kk ≤ 4) {w : Int32} {Q : gj_R → Prop} : ∀ (m : Nat) (k : Nat) (c : Int32), k + m = li → gj_G md_Mo_priceOf (d + 2) K N 0 0 117 [(0, .ref 70), (1, .int (nI j)), (2, .int (nI a)), (3, .int w), (4, .int (pl_pc lr (nI a) (zo j) w m k c))] [] n C Q → gj_G md_Mo_priceOf (d + 2) K N 0 0 20 [(0, .ref (70)), (1, .int (nI j)), (2, .int (nI a)), (3, .int (w)), (4, .int (c)), (5, .int (nI k))] [] (n) C Q := by
  intro m
  induction m with
  | zero =>
    intro k c hm hend
    refine gj_iload d_Mo_priceOf_20 rfl ?_
    refine gj_aload_n d_Mo_priceOf_22 rfl ?_
    refine gj_get d_Mo_priceOf_23 gf_Mo_20 m70 rfl ?_
    refine gj_icmp_ge (tgt := 117) d_Mo_priceOf_26 (by decide) (fun h26 => ?_) (fun h26 => by have m26 : ¬ (li ≤ k) := fun q => h26 ((nI_leI (a := li) (b := k) (by omega) (by omega)).mpr q); exact absurd (show li ≤ k from by omega) m26)
    have m26 : li ≤ k := (nI_leI (a := li) (b := k) (by omega) (by omega)).mp h26
    refine gj_less (lc' := [(0, .ref (70)), (1, .int (nI j)), (2, .int (nI a)), (3, .int (w)), (4, .int (c))]) ⟨rfl, rfl, rfl, rfl, rfl, trivial⟩ ?_
    exact hend
  | succ m ih =>
    intro k c hm hend
    refine gj_iload d_Mo_priceOf_20 rfl ?_
    refine gj_aload_n d_Mo_priceOf_22 rfl ?_
    refine gj_get d_Mo_priceOf_23 gf_Mo_20 m70 rfl ?_
    refine gj_icmp_ge (tgt := 117) d_Mo_priceOf_26 (by decide) (fun h26 => by have m26 : li ≤ k := (nI_leI (a := li) (b := k) (by omega) (by omega)).mp h26; exact absurd m26 (show ¬ (li ≤ k) from by omega)) (fun h26 => ?_)
    have m26 : ¬ (li ≤ k) := fun q => h26 ((nI_leI (a := li) (b := k) (by omega) (by omega)).mpr q)
    refine gj_iload d_Mo_priceOf_29 rfl ?_
    refine gj_if_ge (tgt := 117) d_Mo_priceOf_31 (by decide) (fun h31 => ?_) (fun h31 => ?_)
    · refine gj_less (lc' := [(0, .ref (70)), (1, .int (nI j)), (2, .int (nI a)), (3, .int (w)), (4, .int (c))]) ⟨rfl, rfl, rfl, rfl, rfl, trivial⟩ ?_
      have e : pl_pc lr (nI a) (zo j) w (m + 1) k c = c := if_pos h31
      rw [e] at hend; exact hend
    · refine gj_aload_n d_Mo_priceOf_34 rfl ?_
      refine gj_get d_Mo_priceOf_35 gf_Mo_23 m70 rfl ?_
      refine gj_kc (v := 5) d_Mo_priceOf_38 (by decide) ?_
      refine gj_iload d_Mo_priceOf_39 rfl ?_
      refine gj_imul d_Mo_priceOf_41 ?_
      refine gj_top (y := nI (5 * k)) (nI_mul (5) (k)) ?_
      refine gj_iald d_Mo_priceOf_42 m72 rfl (vp_in_nI (by omega) (by decide)) ?_
      refine gj_top (y := lr (5 * k)) (congrArg lr (nI_clamp (by omega))) ?_
      refine gj_kb (v := 82) d_Mo_priceOf_43 (by decide) ?_
      refine gj_icmp_ne (tgt := 111) d_Mo_priceOf_45 (by decide) (fun h45 => ?_) (fun h45 => ?_)
      · refine gj_iincN d_Mo_priceOf_111 rfl (by decide) ?_
        refine gj_goto (tgt := 20) d_Mo_priceOf_114 (by decide) ?_
        refine gj_less (lc' := [(0, .ref (70)), (1, .int (nI j)), (2, .int (nI a)), (3, .int (w)), (4, .int (c)), (5, .int (nI (k + 1)))]) ⟨rfl, rfl, rfl, rfl, rfl, rfl, trivial⟩ ?_
        refine ih (k + 1) (c) (by omega) ?_
        have e1 : (if lr (5 * k) = 82 ∧ lr (5 * k + 1) = nI a ∧ lr (5 * k + 2) = zo j ∧ w ≤ lr (5 * k + 3) then lr (5 * k + 4) else c) = c := if_neg (fun q => by first | exact h45 q.1 | exact h60 q.2.1 | exact h80 q.2.2.1 | exact absurd h95 (Int32.not_lt.mpr q.2.2.2))
        have e : pl_pc lr (nI a) (zo j) w (m + 1) k c = pl_pc lr (nI a) (zo j) w m (k + 1) (c) := (if_neg h31).trans (congrArg (pl_pc lr (nI a) (zo j) w m (k + 1)) e1)
        rw [e] at hend; exact hend
      · refine gj_aload_n d_Mo_priceOf_48 rfl ?_
        refine gj_get d_Mo_priceOf_49 gf_Mo_23 m70 rfl ?_
        refine gj_kc (v := 5) d_Mo_priceOf_52 (by decide) ?_
        refine gj_iload d_Mo_priceOf_53 rfl ?_
        refine gj_imul d_Mo_priceOf_55 ?_
        refine gj_top (y := nI (5 * k)) (nI_mul (5) (k)) ?_
        refine gj_kc (v := 1) d_Mo_priceOf_56 (by decide) ?_
        refine gj_iadd d_Mo_priceOf_57 ?_
        refine gj_top (y := nI ((5 * k) + 1)) (nI_add (5 * k) (1)) ?_
        refine gj_iald d_Mo_priceOf_58 m72 rfl (vp_in_nI (by omega) (by decide)) ?_
        refine gj_top (y := lr ((5 * k) + 1)) (congrArg lr (nI_clamp (by omega))) ?_
        refine gj_iload_n d_Mo_priceOf_59 rfl ?_
        refine gj_icmp_ne (tgt := 111) d_Mo_priceOf_60 (by decide) (fun h60 => ?_) (fun h60 => ?_)
        · refine gj_iincN d_Mo_priceOf_111 rfl (by decide) ?_
          refine gj_goto (tgt := 20) d_Mo_priceOf_114 (by decide) ?_
          refine gj_less (lc' := [(0, .ref (70)), (1, .int (nI j)), (2, .int (nI a)), (3, .int (w)), (4, .int (c)), (5, .int (nI (k + 1)))]) ⟨rfl, rfl, rfl, rfl, rfl, rfl, trivial⟩ ?_
          refine ih (k + 1) (c) (by omega) ?_
          have e1 : (if lr (5 * k) = 82 ∧ lr (5 * k + 1) = nI a ∧ lr (5 * k + 2) = zo j ∧ w ≤ lr (5 * k + 3) then lr (5 * k + 4) else c) = c := if_neg (fun q => by first | exact h45 q.1 | exact h60 q.2.1 | exact h80 q.2.2.1 | exact absurd h95 (Int32.not_lt.mpr q.2.2.2))
          have e : pl_pc lr (nI a) (zo j) w (m + 1) k c = pl_pc lr (nI a) (zo j) w m (k + 1) (c) := (if_neg h31).trans (congrArg (pl_pc lr (nI a) (zo j) w m (k + 1)) e1)
          rw [e] at hend; exact hend
        · refine gj_aload_n d_Mo_priceOf_63 rfl ?_
          refine gj_get d_Mo_priceOf_64 gf_Mo_23 m70 rfl ?_
          refine gj_kc (v := 5) d_Mo_priceOf_67 (by decide) ?_
          refine gj_iload d_Mo_priceOf_68 rfl ?_
          refine gj_imul d_Mo_priceOf_70 ?_
          refine gj_top (y := nI (5 * k)) (nI_mul (5) (k)) ?_
          refine gj_kc (v := 2) d_Mo_priceOf_71 (by decide) ?_
          refine gj_iadd d_Mo_priceOf_72 ?_
          refine gj_top (y := nI ((5 * k) + 2)) (nI_add (5 * k) (2)) ?_
          refine gj_iald d_Mo_priceOf_73 m72 rfl (vp_in_nI (by omega) (by decide)) ?_
          refine gj_top (y := lr ((5 * k) + 2)) (congrArg lr (nI_clamp (by omega))) ?_
          refine gj_aload_n d_Mo_priceOf_74 rfl ?_
          refine gj_get d_Mo_priceOf_75 gf_Mo_42 m70 rfl ?_
          refine gj_iload_n d_Mo_priceOf_78 rfl ?_
          refine gj_iald d_Mo_priceOf_79 m75 rfl (vp_in_nI (by omega) (by decide)) ?_
          refine gj_top (y := zo (j)) (congrArg zo (nI_clamp (by omega))) ?_
          refine gj_icmp_ne (tgt := 111) d_Mo_priceOf_80 (by decide) (fun h80 => ?_) (fun h80 => ?_)
          · refine gj_iincN d_Mo_priceOf_111 rfl (by decide) ?_
            refine gj_goto (tgt := 20) d_Mo_priceOf_114 (by decide) ?_
            refine gj_less (lc' := [(0, .ref (70)), (1, .int (nI j)), (2, .int (nI a)), (3, .int (w)), (4, .int (c)), (5, .int (nI (k + 1)))]) ⟨rfl, rfl, rfl, rfl, rfl, rfl, trivial⟩ ?_
            refine ih (k + 1) (c) (by omega) ?_
            have e1 : (if lr (5 * k) = 82 ∧ lr (5 * k + 1) = nI a ∧ lr (5 * k + 2) = zo j ∧ w ≤ lr (5 * k + 3) then lr (5 * k + 4) else c) = c := if_neg (fun q => by first | exact h45 q.1 | exact h60 q.2.1 | exact h80 q.2.2.1 | exact absurd h95 (Int32.not_lt.mpr q.2.2.2))
            have e : pl_pc lr (nI a) (zo j) w (m + 1) k c = pl_pc lr (nI a) (zo j) w m (k + 1) (c) := (if_neg h31).trans (congrArg (pl_pc lr (nI a) (zo j) w m (k + 1)) e1)
            rw [e] at hend; exact hend
          · refine gj_aload_n d_Mo_priceOf_83 rfl ?_
            refine gj_get d_Mo_priceOf_84 gf_Mo_23 m70 rfl ?_
            refine gj_kc (v := 5) d_Mo_priceOf_87 (by decide) ?_
            refine gj_iload d_Mo_priceOf_88 rfl ?_
            refine gj_imul d_Mo_priceOf_90 ?_
            refine gj_top (y := nI (5 * k)) (nI_mul (5) (k)) ?_
            refine gj_kc (v := 3) d_Mo_priceOf_91 (by decide) ?_
            refine gj_iadd d_Mo_priceOf_92 ?_
            refine gj_top (y := nI ((5 * k) + 3)) (nI_add (5 * k) (3)) ?_
            refine gj_iald d_Mo_priceOf_93 m72 rfl (vp_in_nI (by omega) (by decide)) ?_
            refine gj_top (y := lr ((5 * k) + 3)) (congrArg lr (nI_clamp (by omega))) ?_
            refine gj_iload_n d_Mo_priceOf_94 rfl ?_
            refine gj_icmp_lt (tgt := 111) d_Mo_priceOf_95 (by decide) (fun h95 => ?_) (fun h95 => ?_)
            · refine gj_iincN d_Mo_priceOf_111 rfl (by decide) ?_
              refine gj_goto (tgt := 20) d_Mo_priceOf_114 (by decide) ?_
              refine gj_less (lc' := [(0, .ref (70)), (1, .int (nI j)), (2, .int (nI a)), (3, .int (w)), (4, .int (c)), (5, .int (nI (k + 1)))]) ⟨rfl, rfl, rfl, rfl, rfl, rfl, trivial⟩ ?_
              refine ih (k + 1) (c) (by omega) ?_
              have e1 : (if lr (5 * k) = 82 ∧ lr (5 * k + 1) = nI a ∧ lr (5 * k + 2) = zo j ∧ w ≤ lr (5 * k + 3) then lr (5 * k + 4) else c) = c := if_neg (fun q => by first | exact h45 q.1 | exact h60 q.2.1 | exact h80 q.2.2.1 | exact absurd h95 (Int32.not_lt.mpr q.2.2.2))
              have e : pl_pc lr (nI a) (zo j) w (m + 1) k c = pl_pc lr (nI a) (zo j) w m (k + 1) (c) := (if_neg h31).trans (congrArg (pl_pc lr (nI a) (zo j) w m (k + 1)) e1)
              rw [e] at hend; exact hend
            · refine gj_aload_n d_Mo_priceOf_98 rfl ?_
              refine gj_get d_Mo_priceOf_99 gf_Mo_23 m70 rfl ?_
              refine gj_kc (v := 5) d_Mo_priceOf_102 (by decide) ?_
              refine gj_iload d_Mo_priceOf_103 rfl ?_
              refine gj_imul d_Mo_priceOf_105 ?_
              refine gj_top (y := nI (5 * k)) (nI_mul (5) (k)) ?_
              refine gj_kc (v := 4) d_Mo_priceOf_106 (by decide) ?_
              refine gj_iadd d_Mo_priceOf_107 ?_
              refine gj_top (y := nI ((5 * k) + 4)) (nI_add (5 * k) (4)) ?_
              refine gj_iald d_Mo_priceOf_108 m72 rfl (vp_in_nI (by omega) (by decide)) ?_
              refine gj_top (y := lr ((5 * k) + 4)) (congrArg lr (nI_clamp (by omega))) ?_
              refine gj_istore d_Mo_priceOf_109 (by decide) ?_
              refine gj_iincN d_Mo_priceOf_111 rfl (by decide) ?_
              refine gj_goto (tgt := 20) d_Mo_priceOf_114 (by decide) ?_
              refine gj_less (lc' := [(0, .ref (70)), (1, .int (nI j)), (2, .int (nI a)), (3, .int (w)), (4, .int (lr ((5 * k) + 4))), (5, .int (nI (k + 1)))]) ⟨rfl, rfl, rfl, rfl, rfl, rfl, trivial⟩ ?_
              refine ih (k + 1) (lr ((5 * k) + 4)) (by omega) ?_
              have e1 : (if lr (5 * k) = 82 ∧ lr (5 * k + 1) = nI a ∧ lr (5 * k + 2) = zo j ∧ w ≤ lr (5 * k + 3) then lr (5 * k + 4) else c) = lr ((5 * k) + 4) := if_pos ⟨h45, h60, h80, Int32.not_lt.mp h95⟩
              have e : pl_pc lr (nI a) (zo j) w (m + 1) k c = pl_pc lr (nI a) (zo j) w m (k + 1) (lr ((5 * k) + 4)) := (if_neg h31).trans (congrArg (pl_pc lr (nI a) (zo j) w m (k + 1)) e1)
              rw [e] at hend; exact hend
def pm_cd (a : Nat) : Option Nat → Int32
  | none => -1
  | some p => nI (4 * a + p)
set_option maxHeartbeats 2000000 in
theorem c_Mo_priceOf_l2 {d K N n sg li nl ap ns dy : Nat} {tc : Int32} {C : Nat → va_E} {j a kk : Nat} {lr go zo gr vo se cn fm up dn : Nat → Int32} (m70 : C (70) = .inr (5, [.int (tc), .ref (71), .int (nI sg), .int (nI li), .ref (72), .int (nI nl), .ref (73), .int (nI ap), .int (nI ns), .ref (74), .ref (75), .ref (76), .ref (77), .ref (78), .ref (79), .ref (80), .ref (81), .ref (82), .ref (83), .ref (84), .int (nI dy), .ref (85), .ref (86), .ref (87), .ref (88), .ref (89), .ref (90)])) (m72 : C (72) = .inl (0, 300, .inl lr)) (m74 : C (74) = .inl (2, 20, .inl go)) (m75 : C (75) = .inl (0, 20, .inl zo)) (m76 : C (76) = .inl (0, 20, .inl gr)) (m77 : C (77) = .inl (0, 20, .inl vo)) (m78 : C (78) = .inl (0, 20, .inl se)) (m81 : C (81) = .inl (0, 10, .inl cn)) (m82 : C (82) = .inl (0, 40, .inl fm)) (m83 : C (83) = .inl (0, 40, .inl up)) (m84 : C (84) = .inl (0, 40, .inl dn)) (hli : li ≤ 60) (hns : ns ≤ 20) (hj : j < 20) (ha : a < 10) (hcn : cn a = nI kk) (hkk : kk ≤ 4) (hdn : ∀ p, p < kk → ¬ dn (4 * a + p) = 0) {c v : Int32} {Q : gj_R → Prop} : ∀ (m : Nat) (i : Nat) (b : Option Nat), i + m = kk → (∀ p, b = some p → p < i) → Q (gj_iv (pm_pt c up dn a (pf_la (fun i => fm (4 * a + i)) v m i b)), n, C) → gj_G md_Mo_priceOf (d + 2) K N 0 0 221 [(0, .ref (70)), (1, .int (nI j)), (2, .int (nI a)), (4, .int (c)), (6, .int (pm_cd a b)), (7, .int (v)), (8, .int (nI (4 * a + i)))] [] (n) C Q := by
  intro m
  induction m with
  | zero =>
    intro i b hm hb hend
    rcases b with _ | p
    · refine gj_less (lc' := [(0, .ref (70)), (1, .int (nI j)), (2, .int (nI a)), (4, .int (c)), (6, .int (-1)), (7, .int (v)), (8, .int (nI (4 * a + i)))]) ⟨rfl, rfl, rfl, rfl, rfl, rfl, rfl, trivial⟩ ?_
      refine gj_iload d_Mo_priceOf_221 rfl ?_
      refine gj_kc (v := 4) d_Mo_priceOf_223 (by decide) ?_
      refine gj_iload_n d_Mo_priceOf_224 rfl ?_
      refine gj_imul d_Mo_priceOf_225 ?_
      refine gj_top (y := nI (4 * a)) (nI_mul (4) (a)) ?_
      refine gj_aload_n d_Mo_priceOf_226 rfl ?_
      refine gj_get d_Mo_priceOf_227 gf_Mo_60 m70 rfl ?_
      refine gj_iload_n d_Mo_priceOf_230 rfl ?_
      refine gj_iald d_Mo_priceOf_231 m81 rfl (vp_in_nI (by omega) (by decide)) ?_
      refine gj_top (y := cn (a)) (congrArg cn (nI_clamp (by omega))) ?_
      refine gj_top hcn ?_
      refine gj_iadd d_Mo_priceOf_232 ?_
      refine gj_top (y := nI ((4 * a) + kk)) (nI_add (4 * a) (kk)) ?_
      refine gj_icmp_ge (tgt := 280) d_Mo_priceOf_233 (by decide) (fun h233 => ?_) (fun h233 => by have m233 : ¬ ((4 * a) + kk ≤ 4 * a + i) := fun q => h233 ((nI_leI (a := (4 * a) + kk) (b := 4 * a + i) (by omega) (by omega)).mpr q); exact absurd (show (4 * a) + kk ≤ 4 * a + i from by omega) m233)
      have m233 : (4 * a) + kk ≤ 4 * a + i := (nI_leI (a := (4 * a) + kk) (b := 4 * a + i) (by omega) (by omega)).mp h233
      refine gj_iload d_Mo_priceOf_280 rfl ?_
      refine gj_if_ge (tgt := 290) d_Mo_priceOf_282 (by decide) (fun h282 => absurd h282 (by decide)) (fun h282 => ?_)
      refine gj_iload d_Mo_priceOf_285 rfl ?_
      refine gj_goto (tgt := 310) d_Mo_priceOf_287 (by decide) ?_
      refine gj_iret rfl (Nat.zero_le _) (Nat.zero_le _) d_Mo_priceOf_310 ?_
      exact hend
    · have hp := hb p rfl
      refine gj_less (lc' := [(0, .ref (70)), (1, .int (nI j)), (2, .int (nI a)), (4, .int (c)), (6, .int (nI (4 * a + p))), (7, .int (v)), (8, .int (nI (4 * a + i)))]) ⟨rfl, rfl, rfl, rfl, rfl, rfl, rfl, trivial⟩ ?_
      refine gj_iload d_Mo_priceOf_221 rfl ?_
      refine gj_kc (v := 4) d_Mo_priceOf_223 (by decide) ?_
      refine gj_iload_n d_Mo_priceOf_224 rfl ?_
      refine gj_imul d_Mo_priceOf_225 ?_
      refine gj_top (y := nI (4 * a)) (nI_mul (4) (a)) ?_
      refine gj_aload_n d_Mo_priceOf_226 rfl ?_
      refine gj_get d_Mo_priceOf_227 gf_Mo_60 m70 rfl ?_
      refine gj_iload_n d_Mo_priceOf_230 rfl ?_
      refine gj_iald d_Mo_priceOf_231 m81 rfl (vp_in_nI (by omega) (by decide)) ?_
      refine gj_top (y := cn (a)) (congrArg cn (nI_clamp (by omega))) ?_
      refine gj_top hcn ?_
      refine gj_iadd d_Mo_priceOf_232 ?_
      refine gj_top (y := nI ((4 * a) + kk)) (nI_add (4 * a) (kk)) ?_
      refine gj_icmp_ge (tgt := 280) d_Mo_priceOf_233 (by decide) (fun h233 => ?_) (fun h233 => by have m233 : ¬ ((4 * a) + kk ≤ 4 * a + i) := fun q => h233 ((nI_leI (a := (4 * a) + kk) (b := 4 * a + i) (by omega) (by omega)).mpr q); exact absurd (show (4 * a) + kk ≤ 4 * a + i from by omega) m233)
      have m233 : (4 * a) + kk ≤ 4 * a + i := (nI_leI (a := (4 * a) + kk) (b := 4 * a + i) (by omega) (by omega)).mp h233
      refine gj_iload d_Mo_priceOf_280 rfl ?_
      refine gj_if_ge (tgt := 290) d_Mo_priceOf_282 (by decide) (fun h282 => ?_) (fun h282 => by have m282 : ¬ (0 ≤ 4 * a + p) := fun q => h282 ((nI_leI (a := 0) (b := 4 * a + p) (by omega) (by omega)).mpr q); exact absurd (show 0 ≤ 4 * a + p from by omega) m282)
      have m282 : 0 ≤ 4 * a + p := (nI_leI (a := 0) (b := 4 * a + p) (by omega) (by omega)).mp h282
      refine gj_iload d_Mo_priceOf_290 rfl ?_
      refine gj_i2l d_Mo_priceOf_292 ?_
      refine gj_aload_n d_Mo_priceOf_293 rfl ?_
      refine gj_get d_Mo_priceOf_294 gf_Mo_66 m70 rfl ?_
      refine gj_iload d_Mo_priceOf_297 rfl ?_
      refine gj_iald d_Mo_priceOf_299 m83 rfl (vp_in_nI (by omega) (by decide)) ?_
      refine gj_top (y := up (4 * a + p)) (congrArg up (nI_clamp (by omega))) ?_
      refine gj_aload_n d_Mo_priceOf_300 rfl ?_
      refine gj_get d_Mo_priceOf_301 gf_Mo_69 m70 rfl ?_
      refine gj_iload d_Mo_priceOf_304 rfl ?_
      refine gj_iald d_Mo_priceOf_306 m84 rfl (vp_in_nI (by omega) (by decide)) ?_
      refine gj_top (y := dn (4 * a + p)) (congrArg dn (nI_clamp (by omega))) ?_
      refine gj_callS (as := [.long ((c : Int32).toInt64), .int (up (4 * a + p)), .int (dn (4 * a + p))]) (rest := []) (K1 := 0) (N1 := 0) d_Mo_priceOf_307 mo_Mo_part gw_745 gw_746 gw_25 pl_Mo_part (Nat.le_of_ble_eq_true rfl) (Nat.le_of_ble_eq_true rfl) (Nat.zero_le _) (Nat.zero_le _) (c_Mo_part (hdn p (by omega))) (fun E n' C' _ h => by cases h) (fun v n' C' _ h => ?_)
      cases h
      refine gj_iret rfl (Nat.zero_le _) (Nat.zero_le _) d_Mo_priceOf_310 ?_
      exact hend
  | succ m ih =>
    intro i b hm hb hend
    rcases b with _ | p
    · refine gj_less (lc' := [(0, .ref (70)), (1, .int (nI j)), (2, .int (nI a)), (4, .int (c)), (6, .int (-1)), (7, .int (v)), (8, .int (nI (4 * a + i)))]) ⟨rfl, rfl, rfl, rfl, rfl, rfl, rfl, trivial⟩ ?_
      refine gj_iload d_Mo_priceOf_221 rfl ?_
      refine gj_kc (v := 4) d_Mo_priceOf_223 (by decide) ?_
      refine gj_iload_n d_Mo_priceOf_224 rfl ?_
      refine gj_imul d_Mo_priceOf_225 ?_
      refine gj_top (y := nI (4 * a)) (nI_mul (4) (a)) ?_
      refine gj_aload_n d_Mo_priceOf_226 rfl ?_
      refine gj_get d_Mo_priceOf_227 gf_Mo_60 m70 rfl ?_
      refine gj_iload_n d_Mo_priceOf_230 rfl ?_
      refine gj_iald d_Mo_priceOf_231 m81 rfl (vp_in_nI (by omega) (by decide)) ?_
      refine gj_top (y := cn (a)) (congrArg cn (nI_clamp (by omega))) ?_
      refine gj_top hcn ?_
      refine gj_iadd d_Mo_priceOf_232 ?_
      refine gj_top (y := nI ((4 * a) + kk)) (nI_add (4 * a) (kk)) ?_
      refine gj_icmp_ge (tgt := 280) d_Mo_priceOf_233 (by decide) (fun h233 => by have m233 : (4 * a) + kk ≤ 4 * a + i := (nI_leI (a := (4 * a) + kk) (b := 4 * a + i) (by omega) (by omega)).mp h233; exact absurd m233 (show ¬ ((4 * a) + kk ≤ 4 * a + i) from by omega)) (fun h233 => ?_)
      have m233 : ¬ ((4 * a) + kk ≤ 4 * a + i) := fun q => h233 ((nI_leI (a := (4 * a) + kk) (b := 4 * a + i) (by omega) (by omega)).mpr q)
      refine gj_aload_n d_Mo_priceOf_236 rfl ?_
      refine gj_get d_Mo_priceOf_237 gf_Mo_63 m70 rfl ?_
      refine gj_iload d_Mo_priceOf_240 rfl ?_
      refine gj_iald d_Mo_priceOf_242 m82 rfl (vp_in_nI (by omega) (by decide)) ?_
      refine gj_top (y := fm (4 * a + i)) (congrArg fm (nI_clamp (by omega))) ?_
      refine gj_iload d_Mo_priceOf_243 rfl ?_
      refine gj_icmp_gt (tgt := 274) d_Mo_priceOf_245 (by decide) (fun h245 => ?_) (fun h245 => ?_)
      · refine gj_iincN d_Mo_priceOf_274 rfl (by decide) ?_
        refine gj_goto (tgt := 221) d_Mo_priceOf_277 (by decide) ?_
        refine gj_less (lc' := [(0, .ref (70)), (1, .int (nI j)), (2, .int (nI a)), (4, .int (c)), (6, .int (-1)), (7, .int (v)), (8, .int (nI (4 * a + i + 1)))]) ⟨rfl, rfl, rfl, rfl, rfl, rfl, rfl, trivial⟩ ?_
        rw [Nat.add_assoc]
        refine ih (i + 1) none (by omega) (fun k hk => by cases hk) ?_
        have e : (@ite _ (fm (4 * a + i) ≤ v ∧ pf_gt (fun i => fm (4 * a + i)) i none) (Classical.propDecidable _) (some i) none) = none := if_neg (fun q => by first | exact absurd h245 (Int32.not_lt.mpr q.1) | exact absurd h267 (Int32.not_le.mpr q.2))
        rw [← e]; exact hend
      · refine gj_iload d_Mo_priceOf_248 rfl ?_
        refine gj_if_lt (tgt := 270) d_Mo_priceOf_250 (by decide) (fun h250 => ?_) (fun h250 => absurd (by decide) h250)
        refine gj_iload d_Mo_priceOf_270 rfl ?_
        refine gj_istore d_Mo_priceOf_272 (by decide) ?_
        refine gj_iincN d_Mo_priceOf_274 rfl (by decide) ?_
        refine gj_goto (tgt := 221) d_Mo_priceOf_277 (by decide) ?_
        refine gj_less (lc' := [(0, .ref (70)), (1, .int (nI j)), (2, .int (nI a)), (4, .int (c)), (6, .int (nI (4 * a + i))), (7, .int (v)), (8, .int (nI (4 * a + i + 1)))]) ⟨rfl, rfl, rfl, rfl, rfl, rfl, rfl, trivial⟩ ?_
        rw [Nat.add_assoc]
        refine ih (i + 1) (some i) (by omega) (fun k hk => by cases hk; omega) ?_
        have e : (@ite _ (fm (4 * a + i) ≤ v ∧ pf_gt (fun i => fm (4 * a + i)) i none) (Classical.propDecidable _) (some i) none) = (some i) := if_pos ⟨Int32.not_lt.mp h245, trivial⟩
        rw [← e]; exact hend
    · have hp := hb p rfl
      refine gj_less (lc' := [(0, .ref (70)), (1, .int (nI j)), (2, .int (nI a)), (4, .int (c)), (6, .int (nI (4 * a + p))), (7, .int (v)), (8, .int (nI (4 * a + i)))]) ⟨rfl, rfl, rfl, rfl, rfl, rfl, rfl, trivial⟩ ?_
      refine gj_iload d_Mo_priceOf_221 rfl ?_
      refine gj_kc (v := 4) d_Mo_priceOf_223 (by decide) ?_
      refine gj_iload_n d_Mo_priceOf_224 rfl ?_
      refine gj_imul d_Mo_priceOf_225 ?_
      refine gj_top (y := nI (4 * a)) (nI_mul (4) (a)) ?_
      refine gj_aload_n d_Mo_priceOf_226 rfl ?_
      refine gj_get d_Mo_priceOf_227 gf_Mo_60 m70 rfl ?_
      refine gj_iload_n d_Mo_priceOf_230 rfl ?_
      refine gj_iald d_Mo_priceOf_231 m81 rfl (vp_in_nI (by omega) (by decide)) ?_
      refine gj_top (y := cn (a)) (congrArg cn (nI_clamp (by omega))) ?_
      refine gj_top hcn ?_
      refine gj_iadd d_Mo_priceOf_232 ?_
      refine gj_top (y := nI ((4 * a) + kk)) (nI_add (4 * a) (kk)) ?_
      refine gj_icmp_ge (tgt := 280) d_Mo_priceOf_233 (by decide) (fun h233 => by have m233 : (4 * a) + kk ≤ 4 * a + i := (nI_leI (a := (4 * a) + kk) (b := 4 * a + i) (by omega) (by omega)).mp h233; exact absurd m233 (show ¬ ((4 * a) + kk ≤ 4 * a + i) from by omega)) (fun h233 => ?_)
      have m233 : ¬ ((4 * a) + kk ≤ 4 * a + i) := fun q => h233 ((nI_leI (a := (4 * a) + kk) (b := 4 * a + i) (by omega) (by omega)).mpr q)
      refine gj_aload_n d_Mo_priceOf_236 rfl ?_
      refine gj_get d_Mo_priceOf_237 gf_Mo_63 m70 rfl ?_
      refine gj_iload d_Mo_priceOf_240 rfl ?_
      refine gj_iald d_Mo_priceOf_242 m82 rfl (vp_in_nI (by omega) (by decide)) ?_
      refine gj_top (y := fm (4 * a + i)) (congrArg fm (nI_clamp (by omega))) ?_
      refine gj_iload d_Mo_priceOf_243 rfl ?_
      refine gj_icmp_gt (tgt := 274) d_Mo_priceOf_245 (by decide) (fun h245 => ?_) (fun h245 => ?_)
      · refine gj_iincN d_Mo_priceOf_274 rfl (by decide) ?_
        refine gj_goto (tgt := 221) d_Mo_priceOf_277 (by decide) ?_
        refine gj_less (lc' := [(0, .ref (70)), (1, .int (nI j)), (2, .int (nI a)), (4, .int (c)), (6, .int (nI (4 * a + p))), (7, .int (v)), (8, .int (nI (4 * a + i + 1)))]) ⟨rfl, rfl, rfl, rfl, rfl, rfl, rfl, trivial⟩ ?_
        rw [Nat.add_assoc]
        refine ih (i + 1) (some p) (by omega) (fun k hk => by cases hk; omega) ?_
        have e : (@ite _ (fm (4 * a + i) ≤ v ∧ pf_gt (fun i => fm (4 * a + i)) i (some p)) (Classical.propDecidable _) (some i) (some p)) = (some p) := if_neg (fun q => by first | exact absurd h245 (Int32.not_lt.mpr q.1) | exact absurd h267 (Int32.not_le.mpr q.2))
        rw [← e]; exact hend
      · refine gj_iload d_Mo_priceOf_248 rfl ?_
        refine gj_if_lt (tgt := 270) d_Mo_priceOf_250 (by decide) (fun h250 => by have m250 : 4 * a + p < 0 := (nI_ltI (a := 4 * a + p) (b := 0) (by omega) (by omega)).mp h250; exact absurd m250 (show ¬ (4 * a + p < 0) from by omega)) (fun h250 => ?_)
        have m250 : ¬ (4 * a + p < 0) := fun q => h250 ((nI_ltI (a := 4 * a + p) (b := 0) (by omega) (by omega)).mpr q)
        refine gj_aload_n d_Mo_priceOf_253 rfl ?_
        refine gj_get d_Mo_priceOf_254 gf_Mo_63 m70 rfl ?_
        refine gj_iload d_Mo_priceOf_257 rfl ?_
        refine gj_iald d_Mo_priceOf_259 m82 rfl (vp_in_nI (by omega) (by decide)) ?_
        refine gj_top (y := fm (4 * a + i)) (congrArg fm (nI_clamp (by omega))) ?_
        refine gj_aload_n d_Mo_priceOf_260 rfl ?_
        refine gj_get d_Mo_priceOf_261 gf_Mo_63 m70 rfl ?_
        refine gj_iload d_Mo_priceOf_264 rfl ?_
        refine gj_iald d_Mo_priceOf_266 m82 rfl (vp_in_nI (by omega) (by decide)) ?_
        refine gj_top (y := fm (4 * a + p)) (congrArg fm (nI_clamp (by omega))) ?_
        refine gj_icmp_le (tgt := 274) d_Mo_priceOf_267 (by decide) (fun h267 => ?_) (fun h267 => ?_)
        · refine gj_iincN d_Mo_priceOf_274 rfl (by decide) ?_
          refine gj_goto (tgt := 221) d_Mo_priceOf_277 (by decide) ?_
          refine gj_less (lc' := [(0, .ref (70)), (1, .int (nI j)), (2, .int (nI a)), (4, .int (c)), (6, .int (nI (4 * a + p))), (7, .int (v)), (8, .int (nI (4 * a + i + 1)))]) ⟨rfl, rfl, rfl, rfl, rfl, rfl, rfl, trivial⟩ ?_
          rw [Nat.add_assoc]
          refine ih (i + 1) (some p) (by omega) (fun k hk => by cases hk; omega) ?_
          have e : (@ite _ (fm (4 * a + i) ≤ v ∧ pf_gt (fun i => fm (4 * a + i)) i (some p)) (Classical.propDecidable _) (some i) (some p)) = (some p) := if_neg (fun q => by first | exact absurd h245 (Int32.not_lt.mpr q.1) | exact absurd h267 (Int32.not_le.mpr q.2))
          rw [← e]; exact hend
        · refine gj_iload d_Mo_priceOf_270 rfl ?_
          refine gj_istore d_Mo_priceOf_272 (by decide) ?_
          refine gj_iincN d_Mo_priceOf_274 rfl (by decide) ?_
          refine gj_goto (tgt := 221) d_Mo_priceOf_277 (by decide) ?_
          refine gj_less (lc' := [(0, .ref (70)), (1, .int (nI j)), (2, .int (nI a)), (4, .int (c)), (6, .int (nI (4 * a + i))), (7, .int (v)), (8, .int (nI (4 * a + i + 1)))]) ⟨rfl, rfl, rfl, rfl, rfl, rfl, rfl, trivial⟩ ?_
          rw [Nat.add_assoc]
          refine ih (i + 1) (some i) (by omega) (fun k hk => by cases hk; omega) ?_
          have e : (@ite _ (fm (4 * a + i) ≤ v ∧ pf_gt (fun i => fm (4 * a + i)) i (some p)) (Classical.propDecidable _) (some i) (some p)) = (some i) := if_pos ⟨Int32.not_lt.mp h245, Int32.not_le.mp h267⟩
          rw [← e]; exact hend
set_option maxHeartbeats 2000000 in
theorem c_Mo_priceOf2 {d K N n sg li nl ap ns dy : Nat} {tc : Int32} {C : Nat → va_E} {j a kk : Nat} {lr go zo gr vo se cn fm up dn : Nat → Int32} (m70 : C (70) = .inr (5, [.int (tc), .ref (71), .int (nI sg), .int (nI li), .ref (72), .int (nI nl), .ref (73), .int (nI ap), .int (nI ns), .ref (74), .ref (75), .ref (76), .ref (77), .ref (78), .ref (79), .ref (80), .ref (81), .ref (82), .ref (83), .ref (84), .int (nI dy), .ref (85), .ref (86), .ref (87), .ref (88), .ref (89), .ref (90)])) (m72 : C (72) = .inl (0, 300, .inl lr)) (m74 : C (74) = .inl (2, 20, .inl go)) (m75 : C (75) = .inl (0, 20, .inl zo)) (m76 : C (76) = .inl (0, 20, .inl gr)) (m77 : C (77) = .inl (0, 20, .inl vo)) (m78 : C (78) = .inl (0, 20, .inl se)) (m81 : C (81) = .inl (0, 10, .inl cn)) (m82 : C (82) = .inl (0, 40, .inl fm)) (m83 : C (83) = .inl (0, 40, .inl up)) (m84 : C (84) = .inl (0, 40, .inl dn)) (hli : li ≤ 60) (hns : ns ≤ 20) (hj : j < 20) (ha : a < 10) (hcn : cn a = nI kk) (hkk : kk ≤ 4) (hw : pm_tp lr (gr j) (vo j) (pl_fd lr 68 (nI a) li 0) < 0) : gj_G md_Mo_priceOf (d + 2) K N 0 0 0 [(0, .ref (70)), (1, .int (nI j)), (2, .int (nI a))] [] (n) C (fun r => r = (gj_iv (-2), n, C)) := by
  refine gj_aload_n d_Mo_priceOf_0 rfl ?_
  refine gj_iload_n d_Mo_priceOf_1 rfl ?_
  refine gj_iload_n d_Mo_priceOf_2 rfl ?_
  refine gj_callV (as := [.int (nI j), .int (nI a)]) (rest := []) (K1 := 0) (N1 := 0) d_Mo_priceOf_3 mo_Mo_toPay gw_729 gw_731 gw_15 m70 rfl pl_Mo_toPay (Nat.le_of_ble_eq_true rfl) (Nat.le_of_ble_eq_true rfl) (Nat.zero_le _) (Nat.zero_le _) (c_Mo_toPay m70 m72 m76 m77 hli hj) (fun E n' C' _ h => by cases h) (fun v n' C' _ h => ?_)
  cases h
  refine gj_istore_n d_Mo_priceOf_6 (by decide) ?_
  refine gj_iload_n d_Mo_priceOf_7 rfl ?_
  refine gj_if_ge (tgt := 14) d_Mo_priceOf_8 (by decide) (fun h8 => absurd h8 (Int32.not_le.mpr hw)) (fun h8 => ?_)
  refine gj_kb (v := (-2)) d_Mo_priceOf_11 (by decide) ?_
  refine gj_iret rfl (Nat.zero_le _) (Nat.zero_le _) d_Mo_priceOf_13 ?_
  exact rfl
set_option maxHeartbeats 2000000 in
theorem c_Mo_priceOf {d K N n sg li nl ap ns dy : Nat} {tc : Int32} {C : Nat → va_E} {j a kk : Nat} {lr go zo gr vo se cn fm up dn : Nat → Int32} (m70 : C (70) = .inr (5, [.int (tc), .ref (71), .int (nI sg), .int (nI li), .ref (72), .int (nI nl), .ref (73), .int (nI ap), .int (nI ns), .ref (74), .ref (75), .ref (76), .ref (77), .ref (78), .ref (79), .ref (80), .ref (81), .ref (82), .ref (83), .ref (84), .int (nI dy), .ref (85), .ref (86), .ref (87), .ref (88), .ref (89), .ref (90)])) (m72 : C (72) = .inl (0, 300, .inl lr)) (m74 : C (74) = .inl (2, 20, .inl go)) (m75 : C (75) = .inl (0, 20, .inl zo)) (m76 : C (76) = .inl (0, 20, .inl gr)) (m77 : C (77) = .inl (0, 20, .inl vo)) (m78 : C (78) = .inl (0, 20, .inl se)) (m81 : C (81) = .inl (0, 10, .inl cn)) (m82 : C (82) = .inl (0, 40, .inl fm)) (m83 : C (83) = .inl (0, 40, .inl up)) (m84 : C (84) = .inl (0, 40, .inl dn)) (hli : li ≤ 60) (hns : ns ≤ 20) (hj : j < 20) (ha : a < 10) (hcn : cn a = nI kk) (hkk : kk ≤ 4) (hdn : ∀ p, p < kk → ¬ dn (4 * a + p) = 0) (hw : ¬ pm_tp lr (gr j) (vo j) (pl_fd lr 68 (nI a) li 0) < 0) {c1 : Int32} (hc1 : (pl_pc lr (nI a) (zo j) (pm_tp lr (gr j) (vo j) (pl_fd lr 68 (nI a) li 0)) li 0 (-1)) = c1) (hc0 : 0 ≤ c1) (hF : ∀ k, pl_fd lr 70 (nI a) li 0 = some k → ¬ lr (5 * k + 3) = 0) : gj_G md_Mo_priceOf (d + 2) K N 0 0 0 [(0, .ref (70)), (1, .int (nI j)), (2, .int (nI a))] [] (n) C (fun r => r = (gj_iv (pm_pt (pm_mi lr (pm_fu lr c1 (pl_fd lr 70 (nI a) li 0)) (pl_fd lr 77 (nI a) li 0)) up dn a (pf_la (fun i => fm (4 * a + i)) (pl_bk go se (nI a) ns 0 0) kk 0 none)), n, C)) := by
  refine gj_aload_n d_Mo_priceOf_0 rfl ?_
  refine gj_iload_n d_Mo_priceOf_1 rfl ?_
  refine gj_iload_n d_Mo_priceOf_2 rfl ?_
  refine gj_callV (as := [.int (nI j), .int (nI a)]) (rest := []) (K1 := 0) (N1 := 0) d_Mo_priceOf_3 mo_Mo_toPay gw_729 gw_731 gw_15 m70 rfl pl_Mo_toPay (Nat.le_of_ble_eq_true rfl) (Nat.le_of_ble_eq_true rfl) (Nat.zero_le _) (Nat.zero_le _) (c_Mo_toPay m70 m72 m76 m77 hli hj) (fun E n' C' _ h => by cases h) (fun v n' C' _ h => ?_)
  cases h
  refine gj_istore_n d_Mo_priceOf_6 (by decide) ?_
  refine gj_iload_n d_Mo_priceOf_7 rfl ?_
  refine gj_if_ge (tgt := 14) d_Mo_priceOf_8 (by decide) (fun h8 => ?_) (fun h8 => absurd (Int32.not_lt.mp hw) h8)
  refine gj_kc (v := (-1)) d_Mo_priceOf_14 (by decide) ?_
  refine gj_istore d_Mo_priceOf_15 (by decide) ?_
  refine gj_kc (v := 0) d_Mo_priceOf_17 (by decide) ?_
  refine gj_istore d_Mo_priceOf_18 (by decide) ?_
  refine gj_less (lc' := [(0, .ref (70)), (1, .int (nI j)), (2, .int (nI a)), (3, .int (pm_tp lr (gr j) (vo j) (pl_fd lr 68 (nI a) li 0))), (4, .int (-1)), (5, .int (nI 0))]) ⟨rfl, rfl, rfl, rfl, rfl, rfl, trivial⟩ ?_
  refine c_Mo_priceOf_l1 m70 m72 m74 m75 m76 m77 m78 m81 m82 m83 m84 hli hns hj ha hcn hkk li 0 (-1) (by omega) ?_
  rw [hc1]
  refine gj_iload d_Mo_priceOf_117 rfl ?_
  refine gj_if_ge (tgt := 124) d_Mo_priceOf_119 (by decide) (fun h119 => ?_) (fun h119 => absurd (hc0) h119)
  refine gj_aload_n d_Mo_priceOf_124 rfl ?_
  refine gj_kb (v := 70) d_Mo_priceOf_125 (by decide) ?_
  refine gj_iload_n d_Mo_priceOf_127 rfl ?_
  refine gj_callV (as := [.int (70), .int (nI a)]) (rest := []) (K1 := 0) (N1 := 0) d_Mo_priceOf_128 mo_Mo_find gw_733 gw_735 gw_16 m70 rfl pl_Mo_find (Nat.le_of_ble_eq_true rfl) (Nat.le_of_ble_eq_true rfl) (Nat.zero_le _) (Nat.zero_le _) (c_Mo_find m70 m72 hli) (fun E n' C' _ h => by cases h) (fun v n' C' _ h => ?_)
  cases h
  rcases hf70 : pl_fd lr 70 (nI a) li 0 with _ | k70
  · refine gj_top (y := -1) rfl ?_
    refine gj_istore d_Mo_priceOf_131 (by decide) ?_
    refine gj_iload d_Mo_priceOf_133 rfl ?_
    refine gj_if_lt (tgt := 167) d_Mo_priceOf_135 (by decide) (fun h135 => ?_) (fun h135 => absurd (by decide) h135)
    refine gj_aload_n d_Mo_priceOf_167 rfl ?_
    refine gj_kb (v := 77) d_Mo_priceOf_168 (by decide) ?_
    refine gj_iload_n d_Mo_priceOf_170 rfl ?_
    refine gj_callV (as := [.int (77), .int (nI a)]) (rest := []) (K1 := 0) (N1 := 0) d_Mo_priceOf_171 mo_Mo_find gw_733 gw_735 gw_16 m70 rfl pl_Mo_find (Nat.le_of_ble_eq_true rfl) (Nat.le_of_ble_eq_true rfl) (Nat.zero_le _) (Nat.zero_le _) (c_Mo_find m70 m72 hli) (fun E n' C' _ h => by cases h) (fun v n' C' _ h => ?_)
    cases h
    rcases hf77 : pl_fd lr 77 (nI a) li 0 with _ | k77
    · refine gj_top (y := -1) rfl ?_
      refine gj_istore d_Mo_priceOf_174 (by decide) ?_
      refine gj_iload d_Mo_priceOf_176 rfl ?_
      refine gj_if_lt (tgt := 206) d_Mo_priceOf_178 (by decide) (fun h178 => ?_) (fun h178 => absurd (by decide) h178)
      refine gj_kc (v := (-1)) d_Mo_priceOf_206 (by decide) ?_
      refine gj_istore d_Mo_priceOf_207 (by decide) ?_
      refine gj_aload_n d_Mo_priceOf_209 rfl ?_
      refine gj_iload_n d_Mo_priceOf_210 rfl ?_
      refine gj_callV (as := [.int (nI a)]) (rest := []) (K1 := 0) (N1 := 0) d_Mo_priceOf_211 mo_Mo_booked gw_748 gw_750 gw_18 m70 rfl pl_Mo_booked (Nat.le_of_ble_eq_true rfl) (Nat.le_of_ble_eq_true rfl) (Nat.zero_le _) (Nat.zero_le _) (c_Mo_booked m70 m74 m78 hns) (fun E n' C' _ h => by cases h) (fun v n' C' _ h => ?_)
      cases h
      refine gj_istore d_Mo_priceOf_214 (by decide) ?_
      refine gj_kc (v := 4) d_Mo_priceOf_216 (by decide) ?_
      refine gj_iload_n d_Mo_priceOf_217 rfl ?_
      refine gj_imul d_Mo_priceOf_218 ?_
      refine gj_top (y := nI (4 * a)) (nI_mul (4) (a)) ?_
      refine gj_istore d_Mo_priceOf_219 (by decide) ?_
      refine gj_less (lc' := [(0, .ref (70)), (1, .int (nI j)), (2, .int (nI a)), (4, .int (c1)), (6, .int (-1)), (7, .int (pl_bk go se (nI a) ns 0 0)), (8, .int (nI (4 * a + 0)))]) ⟨rfl, rfl, rfl, rfl, rfl, rfl, rfl, trivial⟩ ?_
      refine c_Mo_priceOf_l2 m70 m72 m74 m75 m76 m77 m78 m81 m82 m83 m84 hli hns hj ha hcn hkk hdn kk 0 none (by omega) (fun _ h => nomatch h) ?_
      exact rfl
    · have hk77 := pl_fd_lt lr 77 (nI a) li 0 k77 hf77
      refine gj_top (y := nI (5 * k77)) rfl ?_
      refine gj_istore d_Mo_priceOf_174 (by decide) ?_
      refine gj_iload d_Mo_priceOf_176 rfl ?_
      refine gj_if_lt (tgt := 206) d_Mo_priceOf_178 (by decide) (fun h178 => by have m178 : 5 * k77 < 0 := (nI_ltI (a := 5 * k77) (b := 0) (by omega) (by omega)).mp h178; exact absurd m178 (show ¬ (5 * k77 < 0) from by omega)) (fun h178 => ?_)
      have m178 : ¬ (5 * k77 < 0) := fun q => h178 ((nI_ltI (a := 5 * k77) (b := 0) (by omega) (by omega)).mpr q)
      refine gj_iload d_Mo_priceOf_181 rfl ?_
      refine gj_aload_n d_Mo_priceOf_183 rfl ?_
      refine gj_get d_Mo_priceOf_184 gf_Mo_23 m70 rfl ?_
      refine gj_iload d_Mo_priceOf_187 rfl ?_
      refine gj_kc (v := 2) d_Mo_priceOf_189 (by decide) ?_
      refine gj_iadd d_Mo_priceOf_190 ?_
      refine gj_top (y := nI ((5 * k77) + 2)) (nI_add (5 * k77) (2)) ?_
      refine gj_iald d_Mo_priceOf_191 m72 rfl (vp_in_nI (by omega) (by decide)) ?_
      refine gj_top (y := lr ((5 * k77) + 2)) (congrArg lr (nI_clamp (by omega))) ?_
      refine gj_icmp_ge (tgt := 206) d_Mo_priceOf_192 (by decide) (fun h192 => ?_) (fun h192 => ?_)
      · refine gj_kc (v := (-1)) d_Mo_priceOf_206 (by decide) ?_
        refine gj_istore d_Mo_priceOf_207 (by decide) ?_
        refine gj_aload_n d_Mo_priceOf_209 rfl ?_
        refine gj_iload_n d_Mo_priceOf_210 rfl ?_
        refine gj_callV (as := [.int (nI a)]) (rest := []) (K1 := 0) (N1 := 0) d_Mo_priceOf_211 mo_Mo_booked gw_748 gw_750 gw_18 m70 rfl pl_Mo_booked (Nat.le_of_ble_eq_true rfl) (Nat.le_of_ble_eq_true rfl) (Nat.zero_le _) (Nat.zero_le _) (c_Mo_booked m70 m74 m78 hns) (fun E n' C' _ h => by cases h) (fun v n' C' _ h => ?_)
        cases h
        refine gj_istore d_Mo_priceOf_214 (by decide) ?_
        refine gj_kc (v := 4) d_Mo_priceOf_216 (by decide) ?_
        refine gj_iload_n d_Mo_priceOf_217 rfl ?_
        refine gj_imul d_Mo_priceOf_218 ?_
        refine gj_top (y := nI (4 * a)) (nI_mul (4) (a)) ?_
        refine gj_istore d_Mo_priceOf_219 (by decide) ?_
        refine gj_less (lc' := [(0, .ref (70)), (1, .int (nI j)), (2, .int (nI a)), (4, .int (c1)), (6, .int (-1)), (7, .int (pl_bk go se (nI a) ns 0 0)), (8, .int (nI (4 * a + 0)))]) ⟨rfl, rfl, rfl, rfl, rfl, rfl, rfl, trivial⟩ ?_
        refine c_Mo_priceOf_l2 m70 m72 m74 m75 m76 m77 m78 m81 m82 m83 m84 hli hns hj ha hcn hkk hdn kk 0 none (by omega) (fun _ h => nomatch h) ?_
        exact gj_ei (congrArg (fun c => pm_pt c up dn a (pf_la (fun i => fm (4 * a + i)) (pl_bk go se (nI a) ns 0 0) kk 0 none)) (if_pos h192).symm)
      · refine gj_aload_n d_Mo_priceOf_195 rfl ?_
        refine gj_get d_Mo_priceOf_196 gf_Mo_23 m70 rfl ?_
        refine gj_iload d_Mo_priceOf_199 rfl ?_
        refine gj_kc (v := 2) d_Mo_priceOf_201 (by decide) ?_
        refine gj_iadd d_Mo_priceOf_202 ?_
        refine gj_top (y := nI ((5 * k77) + 2)) (nI_add (5 * k77) (2)) ?_
        refine gj_iald d_Mo_priceOf_203 m72 rfl (vp_in_nI (by omega) (by decide)) ?_
        refine gj_top (y := lr ((5 * k77) + 2)) (congrArg lr (nI_clamp (by omega))) ?_
        refine gj_istore d_Mo_priceOf_204 (by decide) ?_
        refine gj_kc (v := (-1)) d_Mo_priceOf_206 (by decide) ?_
        refine gj_istore d_Mo_priceOf_207 (by decide) ?_
        refine gj_aload_n d_Mo_priceOf_209 rfl ?_
        refine gj_iload_n d_Mo_priceOf_210 rfl ?_
        refine gj_callV (as := [.int (nI a)]) (rest := []) (K1 := 0) (N1 := 0) d_Mo_priceOf_211 mo_Mo_booked gw_748 gw_750 gw_18 m70 rfl pl_Mo_booked (Nat.le_of_ble_eq_true rfl) (Nat.le_of_ble_eq_true rfl) (Nat.zero_le _) (Nat.zero_le _) (c_Mo_booked m70 m74 m78 hns) (fun E n' C' _ h => by cases h) (fun v n' C' _ h => ?_)
        cases h
        refine gj_istore d_Mo_priceOf_214 (by decide) ?_
        refine gj_kc (v := 4) d_Mo_priceOf_216 (by decide) ?_
        refine gj_iload_n d_Mo_priceOf_217 rfl ?_
        refine gj_imul d_Mo_priceOf_218 ?_
        refine gj_top (y := nI (4 * a)) (nI_mul (4) (a)) ?_
        refine gj_istore d_Mo_priceOf_219 (by decide) ?_
        refine gj_less (lc' := [(0, .ref (70)), (1, .int (nI j)), (2, .int (nI a)), (4, .int (lr ((5 * k77) + 2))), (6, .int (-1)), (7, .int (pl_bk go se (nI a) ns 0 0)), (8, .int (nI (4 * a + 0)))]) ⟨rfl, rfl, rfl, rfl, rfl, rfl, rfl, trivial⟩ ?_
        refine c_Mo_priceOf_l2 m70 m72 m74 m75 m76 m77 m78 m81 m82 m83 m84 hli hns hj ha hcn hkk hdn kk 0 none (by omega) (fun _ h => nomatch h) ?_
        exact gj_ei (congrArg (fun c => pm_pt c up dn a (pf_la (fun i => fm (4 * a + i)) (pl_bk go se (nI a) ns 0 0) kk 0 none)) (if_neg h192).symm)
  · have hk70 := pl_fd_lt lr 70 (nI a) li 0 k70 hf70
    refine gj_top (y := nI (5 * k70)) rfl ?_
    refine gj_istore d_Mo_priceOf_131 (by decide) ?_
    refine gj_iload d_Mo_priceOf_133 rfl ?_
    refine gj_if_lt (tgt := 167) d_Mo_priceOf_135 (by decide) (fun h135 => by have m135 : 5 * k70 < 0 := (nI_ltI (a := 5 * k70) (b := 0) (by omega) (by omega)).mp h135; exact absurd m135 (show ¬ (5 * k70 < 0) from by omega)) (fun h135 => ?_)
    have m135 : ¬ (5 * k70 < 0) := fun q => h135 ((nI_ltI (a := 5 * k70) (b := 0) (by omega) (by omega)).mpr q)
    refine gj_iload d_Mo_priceOf_138 rfl ?_
    refine gj_iload d_Mo_priceOf_140 rfl ?_
    refine gj_i2l d_Mo_priceOf_142 ?_
    refine gj_aload_n d_Mo_priceOf_143 rfl ?_
    refine gj_get d_Mo_priceOf_144 gf_Mo_23 m70 rfl ?_
    refine gj_iload d_Mo_priceOf_147 rfl ?_
    refine gj_kc (v := 2) d_Mo_priceOf_149 (by decide) ?_
    refine gj_iadd d_Mo_priceOf_150 ?_
    refine gj_top (y := nI ((5 * k70) + 2)) (nI_add (5 * k70) (2)) ?_
    refine gj_iald d_Mo_priceOf_151 m72 rfl (vp_in_nI (by omega) (by decide)) ?_
    refine gj_top (y := lr ((5 * k70) + 2)) (congrArg lr (nI_clamp (by omega))) ?_
    refine gj_aload_n d_Mo_priceOf_152 rfl ?_
    refine gj_get d_Mo_priceOf_153 gf_Mo_23 m70 rfl ?_
    refine gj_iload d_Mo_priceOf_156 rfl ?_
    refine gj_kc (v := 3) d_Mo_priceOf_158 (by decide) ?_
    refine gj_iadd d_Mo_priceOf_159 ?_
    refine gj_top (y := nI ((5 * k70) + 3)) (nI_add (5 * k70) (3)) ?_
    refine gj_iald d_Mo_priceOf_160 m72 rfl (vp_in_nI (by omega) (by decide)) ?_
    refine gj_top (y := lr ((5 * k70) + 3)) (congrArg lr (nI_clamp (by omega))) ?_
    refine gj_callS (as := [.long ((c1 : Int32).toInt64), .int (lr ((5 * k70) + 2)), .int (lr ((5 * k70) + 3))]) (rest := [.int (c1)]) (K1 := 0) (N1 := 0) d_Mo_priceOf_161 mo_Mo_part gw_745 gw_746 gw_25 pl_Mo_part (Nat.le_of_ble_eq_true rfl) (Nat.le_of_ble_eq_true rfl) (Nat.zero_le _) (Nat.zero_le _) (c_Mo_part (hF k70 hf70)) (fun E n' C' _ h => by cases h) (fun v n' C' _ h => ?_)
    cases h
    refine gj_iadd d_Mo_priceOf_164 ?_
    refine gj_istore d_Mo_priceOf_165 (by decide) ?_
    refine gj_aload_n d_Mo_priceOf_167 rfl ?_
    refine gj_kb (v := 77) d_Mo_priceOf_168 (by decide) ?_
    refine gj_iload_n d_Mo_priceOf_170 rfl ?_
    refine gj_callV (as := [.int (77), .int (nI a)]) (rest := []) (K1 := 0) (N1 := 0) d_Mo_priceOf_171 mo_Mo_find gw_733 gw_735 gw_16 m70 rfl pl_Mo_find (Nat.le_of_ble_eq_true rfl) (Nat.le_of_ble_eq_true rfl) (Nat.zero_le _) (Nat.zero_le _) (c_Mo_find m70 m72 hli) (fun E n' C' _ h => by cases h) (fun v n' C' _ h => ?_)
    cases h
    rcases hf77 : pl_fd lr 77 (nI a) li 0 with _ | k77
    · refine gj_top (y := -1) rfl ?_
      refine gj_istore d_Mo_priceOf_174 (by decide) ?_
      refine gj_iload d_Mo_priceOf_176 rfl ?_
      refine gj_if_lt (tgt := 206) d_Mo_priceOf_178 (by decide) (fun h178 => ?_) (fun h178 => absurd (by decide) h178)
      refine gj_kc (v := (-1)) d_Mo_priceOf_206 (by decide) ?_
      refine gj_istore d_Mo_priceOf_207 (by decide) ?_
      refine gj_aload_n d_Mo_priceOf_209 rfl ?_
      refine gj_iload_n d_Mo_priceOf_210 rfl ?_
      refine gj_callV (as := [.int (nI a)]) (rest := []) (K1 := 0) (N1 := 0) d_Mo_priceOf_211 mo_Mo_booked gw_748 gw_750 gw_18 m70 rfl pl_Mo_booked (Nat.le_of_ble_eq_true rfl) (Nat.le_of_ble_eq_true rfl) (Nat.zero_le _) (Nat.zero_le _) (c_Mo_booked m70 m74 m78 hns) (fun E n' C' _ h => by cases h) (fun v n' C' _ h => ?_)
      cases h
      refine gj_istore d_Mo_priceOf_214 (by decide) ?_
      refine gj_kc (v := 4) d_Mo_priceOf_216 (by decide) ?_
      refine gj_iload_n d_Mo_priceOf_217 rfl ?_
      refine gj_imul d_Mo_priceOf_218 ?_
      refine gj_top (y := nI (4 * a)) (nI_mul (4) (a)) ?_
      refine gj_istore d_Mo_priceOf_219 (by decide) ?_
      refine gj_less (lc' := [(0, .ref (70)), (1, .int (nI j)), (2, .int (nI a)), (4, .int ((c1) + ((pr_up (c1.toInt64 * (lr (5 * k70 + 2)).toInt64) (lr (5 * k70 + 3)).toInt64).toInt32))), (6, .int (-1)), (7, .int (pl_bk go se (nI a) ns 0 0)), (8, .int (nI (4 * a + 0)))]) ⟨rfl, rfl, rfl, rfl, rfl, rfl, rfl, trivial⟩ ?_
      refine c_Mo_priceOf_l2 m70 m72 m74 m75 m76 m77 m78 m81 m82 m83 m84 hli hns hj ha hcn hkk hdn kk 0 none (by omega) (fun _ h => nomatch h) ?_
      exact rfl
    · have hk77 := pl_fd_lt lr 77 (nI a) li 0 k77 hf77
      refine gj_top (y := nI (5 * k77)) rfl ?_
      refine gj_istore d_Mo_priceOf_174 (by decide) ?_
      refine gj_iload d_Mo_priceOf_176 rfl ?_
      refine gj_if_lt (tgt := 206) d_Mo_priceOf_178 (by decide) (fun h178 => by have m178 : 5 * k77 < 0 := (nI_ltI (a := 5 * k77) (b := 0) (by omega) (by omega)).mp h178; exact absurd m178 (show ¬ (5 * k77 < 0) from by omega)) (fun h178 => ?_)
      have m178 : ¬ (5 * k77 < 0) := fun q => h178 ((nI_ltI (a := 5 * k77) (b := 0) (by omega) (by omega)).mpr q)
      refine gj_iload d_Mo_priceOf_181 rfl ?_
      refine gj_aload_n d_Mo_priceOf_183 rfl ?_
      refine gj_get d_Mo_priceOf_184 gf_Mo_23 m70 rfl ?_
      refine gj_iload d_Mo_priceOf_187 rfl ?_
      refine gj_kc (v := 2) d_Mo_priceOf_189 (by decide) ?_
      refine gj_iadd d_Mo_priceOf_190 ?_
      refine gj_top (y := nI ((5 * k77) + 2)) (nI_add (5 * k77) (2)) ?_
      refine gj_iald d_Mo_priceOf_191 m72 rfl (vp_in_nI (by omega) (by decide)) ?_
      refine gj_top (y := lr ((5 * k77) + 2)) (congrArg lr (nI_clamp (by omega))) ?_
      refine gj_icmp_ge (tgt := 206) d_Mo_priceOf_192 (by decide) (fun h192 => ?_) (fun h192 => ?_)
      · refine gj_kc (v := (-1)) d_Mo_priceOf_206 (by decide) ?_
        refine gj_istore d_Mo_priceOf_207 (by decide) ?_
        refine gj_aload_n d_Mo_priceOf_209 rfl ?_
        refine gj_iload_n d_Mo_priceOf_210 rfl ?_
        refine gj_callV (as := [.int (nI a)]) (rest := []) (K1 := 0) (N1 := 0) d_Mo_priceOf_211 mo_Mo_booked gw_748 gw_750 gw_18 m70 rfl pl_Mo_booked (Nat.le_of_ble_eq_true rfl) (Nat.le_of_ble_eq_true rfl) (Nat.zero_le _) (Nat.zero_le _) (c_Mo_booked m70 m74 m78 hns) (fun E n' C' _ h => by cases h) (fun v n' C' _ h => ?_)
        cases h
        refine gj_istore d_Mo_priceOf_214 (by decide) ?_
        refine gj_kc (v := 4) d_Mo_priceOf_216 (by decide) ?_
        refine gj_iload_n d_Mo_priceOf_217 rfl ?_
        refine gj_imul d_Mo_priceOf_218 ?_
        refine gj_top (y := nI (4 * a)) (nI_mul (4) (a)) ?_
        refine gj_istore d_Mo_priceOf_219 (by decide) ?_
        refine gj_less (lc' := [(0, .ref (70)), (1, .int (nI j)), (2, .int (nI a)), (4, .int ((c1) + ((pr_up (c1.toInt64 * (lr (5 * k70 + 2)).toInt64) (lr (5 * k70 + 3)).toInt64).toInt32))), (6, .int (-1)), (7, .int (pl_bk go se (nI a) ns 0 0)), (8, .int (nI (4 * a + 0)))]) ⟨rfl, rfl, rfl, rfl, rfl, rfl, rfl, trivial⟩ ?_
        refine c_Mo_priceOf_l2 m70 m72 m74 m75 m76 m77 m78 m81 m82 m83 m84 hli hns hj ha hcn hkk hdn kk 0 none (by omega) (fun _ h => nomatch h) ?_
        exact gj_ei (congrArg (fun c => pm_pt c up dn a (pf_la (fun i => fm (4 * a + i)) (pl_bk go se (nI a) ns 0 0) kk 0 none)) (if_pos h192).symm)
      · refine gj_aload_n d_Mo_priceOf_195 rfl ?_
        refine gj_get d_Mo_priceOf_196 gf_Mo_23 m70 rfl ?_
        refine gj_iload d_Mo_priceOf_199 rfl ?_
        refine gj_kc (v := 2) d_Mo_priceOf_201 (by decide) ?_
        refine gj_iadd d_Mo_priceOf_202 ?_
        refine gj_top (y := nI ((5 * k77) + 2)) (nI_add (5 * k77) (2)) ?_
        refine gj_iald d_Mo_priceOf_203 m72 rfl (vp_in_nI (by omega) (by decide)) ?_
        refine gj_top (y := lr ((5 * k77) + 2)) (congrArg lr (nI_clamp (by omega))) ?_
        refine gj_istore d_Mo_priceOf_204 (by decide) ?_
        refine gj_kc (v := (-1)) d_Mo_priceOf_206 (by decide) ?_
        refine gj_istore d_Mo_priceOf_207 (by decide) ?_
        refine gj_aload_n d_Mo_priceOf_209 rfl ?_
        refine gj_iload_n d_Mo_priceOf_210 rfl ?_
        refine gj_callV (as := [.int (nI a)]) (rest := []) (K1 := 0) (N1 := 0) d_Mo_priceOf_211 mo_Mo_booked gw_748 gw_750 gw_18 m70 rfl pl_Mo_booked (Nat.le_of_ble_eq_true rfl) (Nat.le_of_ble_eq_true rfl) (Nat.zero_le _) (Nat.zero_le _) (c_Mo_booked m70 m74 m78 hns) (fun E n' C' _ h => by cases h) (fun v n' C' _ h => ?_)
        cases h
        refine gj_istore d_Mo_priceOf_214 (by decide) ?_
        refine gj_kc (v := 4) d_Mo_priceOf_216 (by decide) ?_
        refine gj_iload_n d_Mo_priceOf_217 rfl ?_
        refine gj_imul d_Mo_priceOf_218 ?_
        refine gj_top (y := nI (4 * a)) (nI_mul (4) (a)) ?_
        refine gj_istore d_Mo_priceOf_219 (by decide) ?_
        refine gj_less (lc' := [(0, .ref (70)), (1, .int (nI j)), (2, .int (nI a)), (4, .int (lr ((5 * k77) + 2))), (6, .int (-1)), (7, .int (pl_bk go se (nI a) ns 0 0)), (8, .int (nI (4 * a + 0)))]) ⟨rfl, rfl, rfl, rfl, rfl, rfl, rfl, trivial⟩ ?_
        refine c_Mo_priceOf_l2 m70 m72 m74 m75 m76 m77 m78 m81 m82 m83 m84 hli hns hj ha hcn hkk hdn kk 0 none (by omega) (fun _ h => nomatch h) ?_
        exact gj_ei (congrArg (fun c => pm_pt c up dn a (pf_la (fun i => fm (4 * a + i)) (pl_bk go se (nI a) ns 0 0) kk 0 none)) (if_neg h192).symm)
set_option maxHeartbeats 2000000 in
theorem c_Mo_priceOf1 {d K N n sg li nl ap ns dy : Nat} {tc : Int32} {C : Nat → va_E} {j a kk : Nat} {lr go zo gr vo se cn fm up dn : Nat → Int32} (m70 : C (70) = .inr (5, [.int (tc), .ref (71), .int (nI sg), .int (nI li), .ref (72), .int (nI nl), .ref (73), .int (nI ap), .int (nI ns), .ref (74), .ref (75), .ref (76), .ref (77), .ref (78), .ref (79), .ref (80), .ref (81), .ref (82), .ref (83), .ref (84), .int (nI dy), .ref (85), .ref (86), .ref (87), .ref (88), .ref (89), .ref (90)])) (m72 : C (72) = .inl (0, 300, .inl lr)) (m74 : C (74) = .inl (2, 20, .inl go)) (m75 : C (75) = .inl (0, 20, .inl zo)) (m76 : C (76) = .inl (0, 20, .inl gr)) (m77 : C (77) = .inl (0, 20, .inl vo)) (m78 : C (78) = .inl (0, 20, .inl se)) (m81 : C (81) = .inl (0, 10, .inl cn)) (m82 : C (82) = .inl (0, 40, .inl fm)) (m83 : C (83) = .inl (0, 40, .inl up)) (m84 : C (84) = .inl (0, 40, .inl dn)) (hli : li ≤ 60) (hns : ns ≤ 20) (hj : j < 20) (ha : a < 10) (hcn : cn a = nI kk) (hkk : kk ≤ 4) (hw : ¬ pm_tp lr (gr j) (vo j) (pl_fd lr 68 (nI a) li 0) < 0) {c1 : Int32} (hc1 : (pl_pc lr (nI a) (zo j) (pm_tp lr (gr j) (vo j) (pl_fd lr 68 (nI a) li 0)) li 0 (-1)) = c1) (hc0 : c1 < 0) : gj_G md_Mo_priceOf (d + 2) K N 0 0 0 [(0, .ref (70)), (1, .int (nI j)), (2, .int (nI a))] [] (n) C (fun r => r = (gj_iv (-1), n, C)) := by
  refine gj_aload_n d_Mo_priceOf_0 rfl ?_
  refine gj_iload_n d_Mo_priceOf_1 rfl ?_
  refine gj_iload_n d_Mo_priceOf_2 rfl ?_
  refine gj_callV (as := [.int (nI j), .int (nI a)]) (rest := []) (K1 := 0) (N1 := 0) d_Mo_priceOf_3 mo_Mo_toPay gw_729 gw_731 gw_15 m70 rfl pl_Mo_toPay (Nat.le_of_ble_eq_true rfl) (Nat.le_of_ble_eq_true rfl) (Nat.zero_le _) (Nat.zero_le _) (c_Mo_toPay m70 m72 m76 m77 hli hj) (fun E n' C' _ h => by cases h) (fun v n' C' _ h => ?_)
  cases h
  refine gj_istore_n d_Mo_priceOf_6 (by decide) ?_
  refine gj_iload_n d_Mo_priceOf_7 rfl ?_
  refine gj_if_ge (tgt := 14) d_Mo_priceOf_8 (by decide) (fun h8 => ?_) (fun h8 => absurd (Int32.not_lt.mp hw) h8)
  refine gj_kc (v := (-1)) d_Mo_priceOf_14 (by decide) ?_
  refine gj_istore d_Mo_priceOf_15 (by decide) ?_
  refine gj_kc (v := 0) d_Mo_priceOf_17 (by decide) ?_
  refine gj_istore d_Mo_priceOf_18 (by decide) ?_
  refine gj_less (lc' := [(0, .ref (70)), (1, .int (nI j)), (2, .int (nI a)), (3, .int (pm_tp lr (gr j) (vo j) (pl_fd lr 68 (nI a) li 0))), (4, .int (-1)), (5, .int (nI 0))]) ⟨rfl, rfl, rfl, rfl, rfl, rfl, trivial⟩ ?_
  refine c_Mo_priceOf_l1 m70 m72 m74 m75 m76 m77 m78 m81 m82 m83 m84 hli hns hj ha hcn hkk li 0 (-1) (by omega) ?_
  rw [hc1]
  refine gj_iload d_Mo_priceOf_117 rfl ?_
  refine gj_if_ge (tgt := 124) d_Mo_priceOf_119 (by decide) (fun h119 => absurd h119 (Int32.not_le.mpr hc0)) (fun h119 => ?_)
  refine gj_kc (v := (-1)) d_Mo_priceOf_122 (by decide) ?_
  refine gj_iret rfl (Nat.zero_le _) (Nat.zero_le _) d_Mo_priceOf_123 ?_
  exact rfl
