/-! RateBreaksModel: number -/
theorem pt_vl_no {f : Nat → Int32} {ln q : Nat} {v : Int32} (h : ¬ (48 ≤ pt_at f ln q ∧ pt_at f ln q ≤ 57)) : ∀ m, pt_vl f ln q v m = v
  | 0 => rfl
  | m + 1 => if_neg h
theorem pt_nd_no {f : Nat → Int32} {ln q : Nat} (h : ¬ (48 ≤ pt_at f ln q ∧ pt_at f ln q ≤ 57)) : ∀ m, pt_nd f ln q m = 0
  | 0 => rfl
  | m + 1 => if_neg h
theorem pt_vl_s {f : Nat → Int32} {ln q : Nat} {v : Int32} (h : 48 ≤ pt_at f ln q ∧ pt_at f ln q ≤ 57) (m : Nat) : pt_vl f ln q v (m + 1) = pt_vl f ln (q + 1) (v * 10 + (pt_at f ln q - 48)) m := if_pos h
theorem pt_nd_s {f : Nat → Int32} {ln q : Nat} (h : 48 ≤ pt_at f ln q ∧ pt_at f ln q ≤ 57) (m : Nat) : pt_nd f ln q (m + 1) = 1 + pt_nd f ln (q + 1) m := if_pos h
theorem pm_10 (v c : Int32) : 10 * v + c - 48 = v * 10 + (c - 48) := by
  rw [Int32.mul_comm, Int32.sub_eq_add_neg, Int32.sub_eq_add_neg, Int32.add_assoc]
noncomputable def pm_np (f : Nat → Int32) (ln p : Nat) : Nat := if pt_at f ln p = 32 then p + 1 + pt_nd f ln (p + 1) 700 else p
noncomputable def pm_num (f : Nat → Int32) (ln p : Nat) : Int32 := if pt_at f ln p = 32 then (if pt_nd f ln (p + 1) 700 = 0 ∨ 9 < pt_nd f ln (p + 1) 700 ∨ (1 < pt_nd f ln (p + 1) 700 ∧ pt_at f ln (p + 1) = 48) then -1 else pt_vl f ln (p + 1) 0 9) else -1
set_option maxHeartbeats 2000000 in
theorem c_Mo_number_loop {d K N n sg li nl ns dy q : Nat} {tc ft : Int32} {tx : Nat → Int32} (hsg : sg ≤ 600) {Q : gj_R → Prop} : ∀ (m : Nat) (k : Nat) (v : Int32) (C : Nat → va_E), sg ≤ q + k + m → q + k ≤ 700 → C 70 = .inr (5, [.int (tc), .ref (71), .int (nI sg), .int (nI li), .ref (72), .int (nI nl), .ref (73), .int (nI (q + k)), .int (nI ns), .ref (74), .ref (75), .ref (76), .ref (77), .ref (78), .ref (79), .ref (80), .ref (81), .ref (82), .ref (83), .ref (84), .int (nI dy), .ref (85), .ref (86), .ref (87), .ref (88), .ref (89), .ref (90)]) → C 71 = .inl (0, 600, .inl tx) → (∀ C2, C2 70 = .inr (5, [.int (tc), .ref (71), .int (nI sg), .int (nI li), .ref (72), .int (nI nl), .ref (73), .int (nI (q + (k + pt_nd tx sg (q + k) m))), .int (nI ns), .ref (74), .ref (75), .ref (76), .ref (77), .ref (78), .ref (79), .ref (80), .ref (81), .ref (82), .ref (83), .ref (84), .int (nI dy), .ref (85), .ref (86), .ref (87), .ref (88), .ref (89), .ref (90)]) → (∀ y, y ≠ 70 → C2 y = C y) → gj_G md_Mo_number (d + 1) K N 0 0 83 [(0, .ref 70), (1, .int (nI (k + pt_nd tx sg (q + k) m))), (2, .int (pt_vl tx sg (q + k) v (9 - k))), (3, .int ft)] [] n C2 Q) → gj_G md_Mo_number (d + 1) K N 0 0 30 [(0, .ref (70)), (1, .int (nI k)), (2, .int (v)), (3, .int (ft))] [] (n) C Q := by
  intro m
  induction m with
  | zero =>
    intro k v C hm hq m70 m71 hend
    refine gj_aload_n d_Mo_number_30 rfl ?_
    refine gj_callV (as := []) (rest := []) (K1 := 0) (N1 := 0) d_Mo_number_31 mo_Mo_here gw_698 gw_700 gw_10 m70 rfl pl_Mo_here (Nat.le_of_ble_eq_true rfl) (Nat.le_of_ble_eq_true rfl) (Nat.zero_le _) (Nat.zero_le _) (c_Mo_here m70 m71 hsg (by omega)) (fun E n' C' _ h => by cases h) (fun v n' C' _ h => ?_)
    cases h
    refine gj_top (y := -1) (if_neg (by omega)) ?_
    refine gj_kb (v := 48) d_Mo_number_34 (by decide) ?_
    refine gj_icmp_lt (tgt := 83) d_Mo_number_36 (by decide) (fun h36 => ?_) (fun h36 => absurd (by decide) h36)
    refine gj_less (lc' := [(0, .ref (70)), (1, .int (nI k)), (2, .int (v)), (3, .int (ft))]) ⟨rfl, rfl, rfl, rfl, trivial⟩ ?_
    have hno : ¬ (48 ≤ pt_at tx sg (q + k) ∧ pt_at tx sg (q + k) ≤ 57) := by rw [show pt_at tx sg (q + k) = -1 from if_neg (by omega)]; decide
    have := hend C m70 (fun _ _ => rfl)
    rw [pt_vl_no hno] at this
    exact this
  | succ m ih =>
    intro k v C hm hq m70 m71 hend
    refine gj_aload_n d_Mo_number_30 rfl ?_
    refine gj_callV (as := []) (rest := []) (K1 := 0) (N1 := 0) d_Mo_number_31 mo_Mo_here gw_698 gw_700 gw_10 m70 rfl pl_Mo_here (Nat.le_of_ble_eq_true rfl) (Nat.le_of_ble_eq_true rfl) (Nat.zero_le _) (Nat.zero_le _) (c_Mo_here m70 m71 hsg (by omega)) (fun E n' C' _ h => by cases h) (fun v n' C' _ h => ?_)
    cases h
    refine gj_kb (v := 48) d_Mo_number_34 (by decide) ?_
    refine gj_icmp_lt (tgt := 83) d_Mo_number_36 (by decide) (fun h36 => ?_) (fun h36 => ?_)
    · refine gj_less (lc' := [(0, .ref (70)), (1, .int (nI k)), (2, .int (v)), (3, .int (ft))]) ⟨rfl, rfl, rfl, rfl, trivial⟩ ?_
      have hno : ¬ (48 ≤ pt_at tx sg (q + k) ∧ pt_at tx sg (q + k) ≤ 57) := by first | exact fun z => absurd h36 (Int32.not_lt.mpr z.1) | exact fun z => absurd h45 (Int32.not_lt.mpr z.2)
      have e0 := pt_nd_no hno (m + 1)
      have := hend C (by rw [e0]; exact m70) (fun _ _ => rfl)
      rw [pt_vl_no hno, e0] at this
      exact this
    · refine gj_aload_n d_Mo_number_39 rfl ?_
      refine gj_callV (as := []) (rest := []) (K1 := 0) (N1 := 0) d_Mo_number_40 mo_Mo_here gw_698 gw_700 gw_10 m70 rfl pl_Mo_here (Nat.le_of_ble_eq_true rfl) (Nat.le_of_ble_eq_true rfl) (Nat.zero_le _) (Nat.zero_le _) (c_Mo_here m70 m71 hsg (by omega)) (fun E n' C' _ h => by cases h) (fun v n' C' _ h => ?_)
      cases h
      refine gj_kb (v := 57) d_Mo_number_43 (by decide) ?_
      refine gj_icmp_gt (tgt := 83) d_Mo_number_45 (by decide) (fun h45 => ?_) (fun h45 => ?_)
      · refine gj_less (lc' := [(0, .ref (70)), (1, .int (nI k)), (2, .int (v)), (3, .int (ft))]) ⟨rfl, rfl, rfl, rfl, trivial⟩ ?_
        have hno : ¬ (48 ≤ pt_at tx sg (q + k) ∧ pt_at tx sg (q + k) ≤ 57) := by first | exact fun z => absurd h36 (Int32.not_lt.mpr z.1) | exact fun z => absurd h45 (Int32.not_lt.mpr z.2)
        have e0 := pt_nd_no hno (m + 1)
        have := hend C (by rw [e0]; exact m70) (fun _ _ => rfl)
        rw [pt_vl_no hno, e0] at this
        exact this
      · refine gj_iload_n d_Mo_number_48 rfl ?_
        refine gj_kb (v := 9) d_Mo_number_49 (by decide) ?_
        refine gj_icmp_ge (tgt := 67) d_Mo_number_51 (by decide) (fun h51 => ?_) (fun h51 => ?_)
        · have m51 : 9 ≤ k := (nI_leI (a := 9) (b := k) (by omega) (by omega)).mp h51
          refine gj_iincN d_Mo_number_67 rfl (by decide) ?_
          refine gj_aload_n d_Mo_number_70 rfl ?_
          refine gj_dup d_Mo_number_71 rfl ?_
          refine gj_get d_Mo_number_72 gf_Mo_32 m70 rfl ?_
          refine gj_kc (v := 1) d_Mo_number_75 (by decide) ?_
          refine gj_iadd d_Mo_number_76 ?_
          refine gj_top (y := nI ((q + k) + 1)) (nI_add (q + k) (1)) ?_
          refine gj_put d_Mo_number_77 gp_Mo_32 m70 (Nat.le_of_ble_eq_true rfl) (fun _ => rfl) (fun _ => rfl) ?_
          obtain ⟨C1, eC1⟩ : ∃ Z0, Z0 = va_up C (70) (.inr (5, [.int (tc), .ref (71), .int (nI sg), .int (nI li), .ref (72), .int (nI nl), .ref (73), .int (nI ((q + k) + 1)), .int (nI ns), .ref (74), .ref (75), .ref (76), .ref (77), .ref (78), .ref (79), .ref (80), .ref (81), .ref (82), .ref (83), .ref (84), .int (nI dy), .ref (85), .ref (86), .ref (87), .ref (88), .ref (89), .ref (90)])) := ⟨_, rfl⟩
          refine gj_mem eC1 ?_
          have f2 : C1 (70) = .inr (5, [.int (tc), .ref (71), .int (nI sg), .int (nI li), .ref (72), .int (nI nl), .ref (73), .int (nI ((q + k) + 1)), .int (nI ns), .ref (74), .ref (75), .ref (76), .ref (77), .ref (78), .ref (79), .ref (80), .ref (81), .ref (82), .ref (83), .ref (84), .int (nI dy), .ref (85), .ref (86), .ref (87), .ref (88), .ref (89), .ref (90)]) := by rw [eC1]; exact va_up_self _ _ _
          have f3 : C1 (71) = .inl (0, 600, .inl tx) := by rw [eC1, va_up_ne _ _ (by omega)]; exact m71
          refine gj_goto (tgt := 30) d_Mo_number_80 (by decide) ?_
          refine gj_less (lc' := [(0, .ref (70)), (1, .int (nI (k + 1))), (2, .int (v)), (3, .int (ft))]) ⟨rfl, rfl, rfl, rfl, trivial⟩ ?_
          have hd : 48 ≤ pt_at tx sg (q + k) ∧ pt_at tx sg (q + k) ≤ 57 := ⟨Int32.not_lt.mp h36, Int32.not_lt.mp h45⟩
          have hqk : q + k < sg := pt_at_lt (fun z => by rw [z] at hd; exact absurd hd.1 (by decide))
          have e0 : k + pt_nd tx sg (q + k) (m + 1) = k + 1 + pt_nd tx sg (q + (k + 1)) m := by rw [pt_nd_s hd m]; show k + (1 + pt_nd tx sg (q + k + 1) m) = k + 1 + pt_nd tx sg (q + k + 1) m; omega
          have e1 : pt_vl tx sg (q + k) v (9 - k) = pt_vl tx sg (q + (k + 1)) v (9 - (k + 1)) := by rw [show 9 - k = 0 by omega, show 9 - (k + 1) = 0 by omega]; rfl
          refine ih (k + 1) (v) C1 (by omega) (by omega) f2 f3 (fun C2 a1 a2 => ?_)
          have := hend C2 (by rw [e0]; exact a1) (fun y hy => (a2 y hy).trans (by rw [eC1, va_up_ne _ _ hy]))
          rw [e0, e1] at this
          exact this
        · have m51 : ¬ (9 ≤ k) := fun q => h51 ((nI_leI (a := 9) (b := k) (by omega) (by omega)).mpr q)
          refine gj_kb (v := 10) d_Mo_number_54 (by decide) ?_
          refine gj_iload_n d_Mo_number_56 rfl ?_
          refine gj_imul d_Mo_number_57 ?_
          refine gj_aload_n d_Mo_number_58 rfl ?_
          refine gj_callV (as := []) (rest := [.int ((10) * (v))]) (K1 := 0) (N1 := 0) d_Mo_number_59 mo_Mo_here gw_698 gw_700 gw_10 m70 rfl pl_Mo_here (Nat.le_of_ble_eq_true rfl) (Nat.le_of_ble_eq_true rfl) (Nat.zero_le _) (Nat.zero_le _) (c_Mo_here m70 m71 hsg (by omega)) (fun E n' C' _ h => by cases h) (fun v n' C' _ h => ?_)
          cases h
          refine gj_iadd d_Mo_number_62 ?_
          refine gj_kb (v := 48) d_Mo_number_63 (by decide) ?_
          refine gj_isub d_Mo_number_65 ?_
          refine gj_istore_n d_Mo_number_66 (by decide) ?_
          refine gj_iincN d_Mo_number_67 rfl (by decide) ?_
          refine gj_aload_n d_Mo_number_70 rfl ?_
          refine gj_dup d_Mo_number_71 rfl ?_
          refine gj_get d_Mo_number_72 gf_Mo_32 m70 rfl ?_
          refine gj_kc (v := 1) d_Mo_number_75 (by decide) ?_
          refine gj_iadd d_Mo_number_76 ?_
          refine gj_top (y := nI ((q + k) + 1)) (nI_add (q + k) (1)) ?_
          refine gj_put d_Mo_number_77 gp_Mo_32 m70 (Nat.le_of_ble_eq_true rfl) (fun _ => rfl) (fun _ => rfl) ?_
          obtain ⟨C4, eC4⟩ : ∃ Z0, Z0 = va_up C (70) (.inr (5, [.int (tc), .ref (71), .int (nI sg), .int (nI li), .ref (72), .int (nI nl), .ref (73), .int (nI ((q + k) + 1)), .int (nI ns), .ref (74), .ref (75), .ref (76), .ref (77), .ref (78), .ref (79), .ref (80), .ref (81), .ref (82), .ref (83), .ref (84), .int (nI dy), .ref (85), .ref (86), .ref (87), .ref (88), .ref (89), .ref (90)])) := ⟨_, rfl⟩
          refine gj_mem eC4 ?_
          have f5 : C4 (70) = .inr (5, [.int (tc), .ref (71), .int (nI sg), .int (nI li), .ref (72), .int (nI nl), .ref (73), .int (nI ((q + k) + 1)), .int (nI ns), .ref (74), .ref (75), .ref (76), .ref (77), .ref (78), .ref (79), .ref (80), .ref (81), .ref (82), .ref (83), .ref (84), .int (nI dy), .ref (85), .ref (86), .ref (87), .ref (88), .ref (89), .ref (90)]) := by rw [eC4]; exact va_up_self _ _ _
          have f6 : C4 (71) = .inl (0, 600, .inl tx) := by rw [eC4, va_up_ne _ _ (by omega)]; exact m71
          refine gj_goto (tgt := 30) d_Mo_number_80 (by decide) ?_
          refine gj_less (lc' := [(0, .ref (70)), (1, .int (nI (k + 1))), (2, .int ((((10) * (v)) + (pt_at tx sg (q + k))) - (48))), (3, .int (ft))]) ⟨rfl, rfl, rfl, rfl, trivial⟩ ?_
          have hd : 48 ≤ pt_at tx sg (q + k) ∧ pt_at tx sg (q + k) ≤ 57 := ⟨Int32.not_lt.mp h36, Int32.not_lt.mp h45⟩
          have hqk : q + k < sg := pt_at_lt (fun z => by rw [z] at hd; exact absurd hd.1 (by decide))
          have e0 : k + pt_nd tx sg (q + k) (m + 1) = k + 1 + pt_nd tx sg (q + (k + 1)) m := by rw [pt_nd_s hd m]; show k + (1 + pt_nd tx sg (q + k + 1) m) = k + 1 + pt_nd tx sg (q + k + 1) m; omega
          have e1 : pt_vl tx sg (q + k) v (9 - k) = pt_vl tx sg (q + (k + 1)) ((((10) * (v)) + (pt_at tx sg (q + k))) - (48)) (9 - (k + 1)) := by rw [show 9 - k = 9 - (k + 1) + 1 by omega, pt_vl_s hd, ← pm_10]; rfl
          refine ih (k + 1) ((((10) * (v)) + (pt_at tx sg (q + k))) - (48)) C4 (by omega) (by omega) f5 f6 (fun C2 a1 a2 => ?_)
          have := hend C2 (by rw [e0]; exact a1) (fun y hy => (a2 y hy).trans (by rw [eC4, va_up_ne _ _ hy]))
          rw [e0, e1] at this
          exact this
set_option maxHeartbeats 2000000 in
theorem c_Mo_number {d K N n sg li nl p ns dy : Nat} {tc : Int32} {tx : Nat → Int32} {C : Nat → va_E} (m70 : C (70) = .inr (5, [.int (tc), .ref (71), .int (nI sg), .int (nI li), .ref (72), .int (nI nl), .ref (73), .int (nI p), .int (nI ns), .ref (74), .ref (75), .ref (76), .ref (77), .ref (78), .ref (79), .ref (80), .ref (81), .ref (82), .ref (83), .ref (84), .int (nI dy), .ref (85), .ref (86), .ref (87), .ref (88), .ref (89), .ref (90)])) (m71 : C (71) = .inl (0, 600, .inl tx)) (hsg : sg ≤ 600) (hp : p ≤ 700) : gj_G md_Mo_number (d + 1) K N 0 0 0 [(0, .ref (70))] [] (n) C (fun r => r.1 = gj_iv (pm_num tx sg p) ∧ r.2.1 = n ∧ r.2.2 70 = .inr (5, [.int (tc), .ref (71), .int (nI sg), .int (nI li), .ref (72), .int (nI nl), .ref (73), .int (nI (pm_np tx sg p)), .int (nI ns), .ref (74), .ref (75), .ref (76), .ref (77), .ref (78), .ref (79), .ref (80), .ref (81), .ref (82), .ref (83), .ref (84), .int (nI dy), .ref (85), .ref (86), .ref (87), .ref (88), .ref (89), .ref (90)]) ∧ ∀ y, y ≠ 70 → r.2.2 y = C y) := by
  refine gj_aload_n d_Mo_number_0 rfl ?_
  refine gj_callV (as := []) (rest := []) (K1 := 0) (N1 := 0) d_Mo_number_1 mo_Mo_here gw_698 gw_700 gw_10 m70 rfl pl_Mo_here (Nat.le_of_ble_eq_true rfl) (Nat.le_of_ble_eq_true rfl) (Nat.zero_le _) (Nat.zero_le _) (c_Mo_here m70 m71 hsg (by omega)) (fun E n' C' _ h => by cases h) (fun v n' C' _ h => ?_)
  cases h
  refine gj_kb (v := 32) d_Mo_number_4 (by decide) ?_
  refine gj_icmp_eq (tgt := 11) d_Mo_number_6 (by decide) (fun h6 => ?_) (fun h6 => ?_)
  · have hp2 : p < sg := pt_at_lt (by rw [h6]; decide)
    refine gj_aload_n d_Mo_number_11 rfl ?_
    refine gj_dup d_Mo_number_12 rfl ?_
    refine gj_get d_Mo_number_13 gf_Mo_32 m70 rfl ?_
    refine gj_kc (v := 1) d_Mo_number_16 (by decide) ?_
    refine gj_iadd d_Mo_number_17 ?_
    refine gj_top (y := nI (p + 1)) (nI_add (p) (1)) ?_
    refine gj_put d_Mo_number_18 gp_Mo_32 m70 (Nat.le_of_ble_eq_true rfl) (fun _ => rfl) (fun _ => rfl) ?_
    obtain ⟨C1, eC1⟩ : ∃ Z0, Z0 = va_up C (70) (.inr (5, [.int (tc), .ref (71), .int (nI sg), .int (nI li), .ref (72), .int (nI nl), .ref (73), .int (nI (p + 1)), .int (nI ns), .ref (74), .ref (75), .ref (76), .ref (77), .ref (78), .ref (79), .ref (80), .ref (81), .ref (82), .ref (83), .ref (84), .int (nI dy), .ref (85), .ref (86), .ref (87), .ref (88), .ref (89), .ref (90)])) := ⟨_, rfl⟩
    refine gj_mem eC1 ?_
    have f2 : C1 (70) = .inr (5, [.int (tc), .ref (71), .int (nI sg), .int (nI li), .ref (72), .int (nI nl), .ref (73), .int (nI (p + 1)), .int (nI ns), .ref (74), .ref (75), .ref (76), .ref (77), .ref (78), .ref (79), .ref (80), .ref (81), .ref (82), .ref (83), .ref (84), .int (nI dy), .ref (85), .ref (86), .ref (87), .ref (88), .ref (89), .ref (90)]) := by rw [eC1]; exact va_up_self _ _ _
    have f3 : C1 (71) = .inl (0, 600, .inl tx) := by rw [eC1, va_up_ne _ _ (by omega)]; exact m71
    refine gj_kc (v := 0) d_Mo_number_21 (by decide) ?_
    refine gj_istore_n d_Mo_number_22 (by decide) ?_
    refine gj_kc (v := 0) d_Mo_number_23 (by decide) ?_
    refine gj_istore_n d_Mo_number_24 (by decide) ?_
    refine gj_aload_n d_Mo_number_25 rfl ?_
    refine gj_callV (as := []) (rest := []) (K1 := 0) (N1 := 0) d_Mo_number_26 mo_Mo_here gw_698 gw_700 gw_10 f2 rfl pl_Mo_here (Nat.le_of_ble_eq_true rfl) (Nat.le_of_ble_eq_true rfl) (Nat.zero_le _) (Nat.zero_le _) (c_Mo_here f2 f3 hsg (by omega)) (fun E n' C' _ h => by cases h) (fun v n' C' _ h => ?_)
    cases h
    refine gj_istore_n d_Mo_number_29 (by decide) ?_
    refine gj_less (lc' := [(0, .ref (70)), (1, .int (nI 0)), (2, .int (0)), (3, .int (pt_at tx sg (p + 1)))]) ⟨rfl, rfl, rfl, rfl, trivial⟩ ?_
    refine c_Mo_number_loop hsg 700 0 0 C1 (by omega) (by omega) f2 f3 (fun Cq a1 a2 => ?_)
    have hD := pt_nd_le tx sg 700 (p + 1)
    rw [Nat.zero_add] at a1
    refine gj_less (lc' := [(0, .ref 70), (1, .int (nI (pt_nd tx sg (p + 1) 700))), (2, .int (pt_vl tx sg (p + 1) 0 9)), (3, .int (pt_at tx sg (p + 1)))]) ⟨rfl, by rw [Nat.zero_add]; rfl, rfl, rfl, trivial⟩ ?_
    refine gj_iload_n d_Mo_number_83 rfl ?_
    refine gj_if_eq (tgt := 104) d_Mo_number_84 (by decide) (fun h84 => ?_) (fun h84 => ?_)
    · have m84 : pt_nd tx sg (p + 1) 700 = 0 := (nI_eq (a := pt_nd tx sg (p + 1) 700) (b := 0) (by omega) (by omega)).mp h84
      refine gj_kc (v := (-1)) d_Mo_number_104 (by decide) ?_
      refine gj_goto (tgt := 109) d_Mo_number_105 (by decide) ?_
      refine gj_iret rfl (Nat.zero_le _) (Nat.zero_le _) d_Mo_number_109 ?_
      exact ⟨congrArg gj_iv ((if_pos h6).trans (if_pos (by first | exact Or.inl m84 | exact Or.inr (Or.inl m90) | exact Or.inr (Or.inr ⟨by omega, h101⟩)))).symm, rfl, by rw [show pm_np tx sg p = p + 1 + pt_nd tx sg (p + 1) 700 from if_pos h6]; exact a1, fun y hy => (a2 y hy).trans (by rw [eC1, va_up_ne _ _ hy])⟩
    · have m84 : ¬ (pt_nd tx sg (p + 1) 700 = 0) := fun q => h84 ((nI_eq (a := pt_nd tx sg (p + 1) 700) (b := 0) (by omega) (by omega)).mpr q)
      refine gj_iload_n d_Mo_number_87 rfl ?_
      refine gj_kb (v := 9) d_Mo_number_88 (by decide) ?_
      refine gj_icmp_gt (tgt := 104) d_Mo_number_90 (by decide) (fun h90 => ?_) (fun h90 => ?_)
      · have m90 : 9 < pt_nd tx sg (p + 1) 700 := (nI_ltI (a := 9) (b := pt_nd tx sg (p + 1) 700) (by omega) (by omega)).mp h90
        refine gj_kc (v := (-1)) d_Mo_number_104 (by decide) ?_
        refine gj_goto (tgt := 109) d_Mo_number_105 (by decide) ?_
        refine gj_iret rfl (Nat.zero_le _) (Nat.zero_le _) d_Mo_number_109 ?_
        exact ⟨congrArg gj_iv ((if_pos h6).trans (if_pos (by first | exact Or.inl m84 | exact Or.inr (Or.inl m90) | exact Or.inr (Or.inr ⟨by omega, h101⟩)))).symm, rfl, by rw [show pm_np tx sg p = p + 1 + pt_nd tx sg (p + 1) 700 from if_pos h6]; exact a1, fun y hy => (a2 y hy).trans (by rw [eC1, va_up_ne _ _ hy])⟩
      · have m90 : ¬ (9 < pt_nd tx sg (p + 1) 700) := fun q => h90 ((nI_ltI (a := 9) (b := pt_nd tx sg (p + 1) 700) (by omega) (by omega)).mpr q)
        refine gj_iload_n d_Mo_number_93 rfl ?_
        refine gj_kc (v := 1) d_Mo_number_94 (by decide) ?_
        refine gj_icmp_le (tgt := 108) d_Mo_number_95 (by decide) (fun h95 => ?_) (fun h95 => ?_)
        · have m95 : pt_nd tx sg (p + 1) 700 ≤ 1 := (nI_leI (a := pt_nd tx sg (p + 1) 700) (b := 1) (by omega) (by omega)).mp h95
          refine gj_iload_n d_Mo_number_108 rfl ?_
          refine gj_iret rfl (Nat.zero_le _) (Nat.zero_le _) d_Mo_number_109 ?_
          exact ⟨congrArg gj_iv ((if_pos h6).trans (if_neg (by rintro (z | z | z) <;> first | omega | exact h101 z.2))).symm, rfl, by rw [show pm_np tx sg p = p + 1 + pt_nd tx sg (p + 1) 700 from if_pos h6]; exact a1, fun y hy => (a2 y hy).trans (by rw [eC1, va_up_ne _ _ hy])⟩
        · have m95 : ¬ (pt_nd tx sg (p + 1) 700 ≤ 1) := fun q => h95 ((nI_leI (a := pt_nd tx sg (p + 1) 700) (b := 1) (by omega) (by omega)).mpr q)
          refine gj_iload_n d_Mo_number_98 rfl ?_
          refine gj_kb (v := 48) d_Mo_number_99 (by decide) ?_
          refine gj_icmp_ne (tgt := 108) d_Mo_number_101 (by decide) (fun h101 => ?_) (fun h101 => ?_)
          · refine gj_iload_n d_Mo_number_108 rfl ?_
            refine gj_iret rfl (Nat.zero_le _) (Nat.zero_le _) d_Mo_number_109 ?_
            exact ⟨congrArg gj_iv ((if_pos h6).trans (if_neg (by rintro (z | z | z) <;> first | omega | exact h101 z.2))).symm, rfl, by rw [show pm_np tx sg p = p + 1 + pt_nd tx sg (p + 1) 700 from if_pos h6]; exact a1, fun y hy => (a2 y hy).trans (by rw [eC1, va_up_ne _ _ hy])⟩
          · refine gj_kc (v := (-1)) d_Mo_number_104 (by decide) ?_
            refine gj_goto (tgt := 109) d_Mo_number_105 (by decide) ?_
            refine gj_iret rfl (Nat.zero_le _) (Nat.zero_le _) d_Mo_number_109 ?_
            exact ⟨congrArg gj_iv ((if_pos h6).trans (if_pos (by first | exact Or.inl m84 | exact Or.inr (Or.inl m90) | exact Or.inr (Or.inr ⟨by omega, h101⟩)))).symm, rfl, by rw [show pm_np tx sg p = p + 1 + pt_nd tx sg (p + 1) 700 from if_pos h6]; exact a1, fun y hy => (a2 y hy).trans (by rw [eC1, va_up_ne _ _ hy])⟩
  · refine gj_kc (v := (-1)) d_Mo_number_9 (by decide) ?_
    refine gj_iret rfl (Nat.zero_le _) (Nat.zero_le _) d_Mo_number_10 ?_
    exact ⟨congrArg gj_iv (if_neg h6).symm, rfl, by rw [show pm_np tx sg p = p from if_neg h6]; exact m70, fun _ _ => rfl⟩
