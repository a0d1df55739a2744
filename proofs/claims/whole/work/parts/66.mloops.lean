/-! RateBreaksModel: its public methods with loops -/
def pm_lt (P : Nat → Int32) (i : Nat) : Option Nat → Prop
  | none => True
  | some j => P i < P j
noncomputable def pm_ch (P : Nat → Int32) : Nat → Nat → Option Nat → Option Nat
  | 0, _, b => b
  | m + 1, i, b => pm_ch P m (i + 1) (@ite _ (0 ≤ P i ∧ pm_lt P i b) (Classical.propDecidable _) (some i) b)
noncomputable def pm_df (go le pr : Nat → Int32) (i : Int32) : Nat → Nat → Nat → Int32
  | 0, _, _ => -1
  | m + 1, s, b => if go s = 0 ∧ 0 ≤ le s ∧ ¬ le s = pr s then (if nI b = i then nI s else pm_df go le pr i m (s + 1) (b + 1)) else pm_df go le pr i m (s + 1) b
/-- the four counts -/
def pm_a1 (go : Nat → Int32) (s : Nat) (t : Int32) : Int32 := if go s = 0 then t + 1 else t
def pm_a2 (go se : Nat → Int32) (s : Nat) (t : Int32) : Int32 := if go s = 0 ∧ 0 ≤ se s then t + 1 else t
def pm_a3 (go se pr : Nat → Int32) (s : Nat) (t : Int32) : Int32 := if go s = 0 ∧ 0 ≤ se s then t + pr s else t
def pm_a4 (go le : Nat → Int32) (s : Nat) (t : Int32) : Int32 := if go s = 0 ∧ 0 ≤ le s then t + le s else t
def pm_it (F : Nat → Int32 → Int32) : Nat → Nat → Int32 → Int32
  | 0, _, t => t
  | m + 1, s, t => pm_it F m (s + 1) (F s t)
def pm_cn (sg li : Nat) (t1 t2 t3 t4 w : Int32) : Int32 := if w = 0 then nI sg else if w = 1 then nI li else if w = 2 then t1 else if w = 3 then t2 else if w = 4 then t3 else if w = 5 then t4 else -1
set_option maxHeartbeats 2000000 in
theorem c_Mo_cheapest_loop {d K N n sg li nl ap ns dy : Nat} {tc : Int32} {C : Nat → va_E} (m70 : C (70) = .inr (5, [.int (tc), .ref (71), .int (nI sg), .int (nI li), .ref (72), .int (nI nl), .ref (73), .int (nI ap), .int (nI ns), .ref (74), .ref (75), .ref (76), .ref (77), .ref (78), .ref (79), .ref (80), .ref (81), .ref (82), .ref (83), .ref (84), .int (nI dy), .ref (85), .ref (86), .ref (87), .ref (88), .ref (89), .ref (90)])) {j : Nat} {P : Nat → Int32} (hP : ∀ a, a < 10 → gj_G md_Mo_priceOf d 0 0 0 0 0 [(0, .ref 70), (1, .int (nI j)), (2, .int (nI a))] [] n C (fun r => r = (gj_iv (P a), n, C))) {Q : gj_R → Prop} : ∀ (m : Nat) (i : Nat) (b : Option Nat), i + m = 10 → (∀ p, b = some p → p < i) → Q (gj_iv (pf_cd (pm_ch P m i b)), n, C) → gj_G md_Mo_cheapest (d + 1) K N 0 0 30 [(0, .ref (70)), (1, .int (nI j)), (2, .int (pf_cd b)), (3, .int (nI i))] [] (n) C Q := by
  intro m
  induction m with
  | zero =>
    intro i b hm hb hend
    refine gj_iload_n d_Mo_cheapest_30 rfl ?_
    refine gj_kb (v := 10) d_Mo_cheapest_31 (by decide) ?_
    refine gj_icmp_ge (tgt := 72) d_Mo_cheapest_33 (by decide) (fun h33 => ?_) (fun h33 => by have m33 : ¬ (10 ≤ i) := fun q => h33 ((nI_leI (a := 10) (b := i) (by omega) (by omega)).mpr q); exact absurd (show 10 ≤ i from by omega) m33)
    have m33 : 10 ≤ i := (nI_leI (a := 10) (b := i) (by omega) (by omega)).mp h33
    refine gj_iload_n d_Mo_cheapest_72 rfl ?_
    refine gj_iret rfl (Nat.zero_le _) (Nat.zero_le _) d_Mo_cheapest_73 ?_
    exact hend
  | succ m ih =>
    intro i b hm hb hend
    rcases b with _ | p
    · refine gj_less (lc' := [(0, .ref (70)), (1, .int (nI j)), (2, .int (-1)), (3, .int (nI i))]) ⟨rfl, rfl, rfl, rfl, trivial⟩ ?_
      refine gj_iload_n d_Mo_cheapest_30 rfl ?_
      refine gj_kb (v := 10) d_Mo_cheapest_31 (by decide) ?_
      refine gj_icmp_ge (tgt := 72) d_Mo_cheapest_33 (by decide) (fun h33 => by have m33 : 10 ≤ i := (nI_leI (a := 10) (b := i) (by omega) (by omega)).mp h33; exact absurd m33 (show ¬ (10 ≤ i) from by omega)) (fun h33 => ?_)
      have m33 : ¬ (10 ≤ i) := fun q => h33 ((nI_leI (a := 10) (b := i) (by omega) (by omega)).mpr q)
      refine gj_aload_n d_Mo_cheapest_36 rfl ?_
      refine gj_iload_n d_Mo_cheapest_37 rfl ?_
      refine gj_iload_n d_Mo_cheapest_38 rfl ?_
      refine gj_callV (as := [.int (nI j), .int (nI i)]) (rest := []) (K1 := 0) (N1 := 0) d_Mo_cheapest_39 mo_Mo_priceOf gw_741 gw_743 gw_17 m70 rfl pl_Mo_priceOf (Nat.le_of_ble_eq_true rfl) (Nat.le_of_ble_eq_true rfl) (Nat.zero_le _) (Nat.zero_le _) (hP i (by omega)) (fun E n' C' _ h => by cases h) (fun v n' C' _ h => ?_)
      cases h
      refine gj_istore d_Mo_cheapest_42 (by decide) ?_
      refine gj_iload d_Mo_cheapest_44 rfl ?_
      refine gj_if_lt (tgt := 66) d_Mo_cheapest_46 (by decide) (fun h46 => ?_) (fun h46 => ?_)
      · refine gj_iincN d_Mo_cheapest_66 rfl (by decide) ?_
        refine gj_goto (tgt := 30) d_Mo_cheapest_69 (by decide) ?_
        refine gj_less (lc' := [(0, .ref (70)), (1, .int (nI j)), (2, .int (-1)), (3, .int (nI (i + 1)))]) ⟨rfl, rfl, rfl, rfl, trivial⟩ ?_
        refine ih (i + 1) none (by omega) (fun k hk => by cases hk) ?_
        have e : (@ite _ (0 ≤ P i ∧ pm_lt P i none) (Classical.propDecidable _) (some i) none) = none := if_neg (fun q => by first | exact absurd h46 (Int32.not_lt.mpr q.1) | exact absurd h61 (Int32.not_le.mpr q.2))
        rw [← e]; exact hend
      · refine gj_iload_n d_Mo_cheapest_49 rfl ?_
        refine gj_if_lt (tgt := 64) d_Mo_cheapest_50 (by decide) (fun h50 => ?_) (fun h50 => absurd (by decide) h50)
        refine gj_iload_n d_Mo_cheapest_64 rfl ?_
        refine gj_istore_n d_Mo_cheapest_65 (by decide) ?_
        refine gj_iincN d_Mo_cheapest_66 rfl (by decide) ?_
        refine gj_goto (tgt := 30) d_Mo_cheapest_69 (by decide) ?_
        refine gj_less (lc' := [(0, .ref (70)), (1, .int (nI j)), (2, .int (nI i)), (3, .int (nI (i + 1)))]) ⟨rfl, rfl, rfl, rfl, trivial⟩ ?_
        refine ih (i + 1) (some i) (by omega) (fun k hk => by cases hk; omega) ?_
        have e : (@ite _ (0 ≤ P i ∧ pm_lt P i none) (Classical.propDecidable _) (some i) none) = (some i) := if_pos ⟨Int32.not_lt.mp h46, trivial⟩
        rw [← e]; exact hend
    · have hp := hb p rfl
      refine gj_less (lc' := [(0, .ref (70)), (1, .int (nI j)), (2, .int (nI p)), (3, .int (nI i))]) ⟨rfl, rfl, rfl, rfl, trivial⟩ ?_
      refine gj_iload_n d_Mo_cheapest_30 rfl ?_
      refine gj_kb (v := 10) d_Mo_cheapest_31 (by decide) ?_
      refine gj_icmp_ge (tgt := 72) d_Mo_cheapest_33 (by decide) (fun h33 => by have m33 : 10 ≤ i := (nI_leI (a := 10) (b := i) (by omega) (by omega)).mp h33; exact absurd m33 (show ¬ (10 ≤ i) from by omega)) (fun h33 => ?_)
      have m33 : ¬ (10 ≤ i) := fun q => h33 ((nI_leI (a := 10) (b := i) (by omega) (by omega)).mpr q)
      refine gj_aload_n d_Mo_cheapest_36 rfl ?_
      refine gj_iload_n d_Mo_cheapest_37 rfl ?_
      refine gj_iload_n d_Mo_cheapest_38 rfl ?_
      refine gj_callV (as := [.int (nI j), .int (nI i)]) (rest := []) (K1 := 0) (N1 := 0) d_Mo_cheapest_39 mo_Mo_priceOf gw_741 gw_743 gw_17 m70 rfl pl_Mo_priceOf (Nat.le_of_ble_eq_true rfl) (Nat.le_of_ble_eq_true rfl) (Nat.zero_le _) (Nat.zero_le _) (hP i (by omega)) (fun E n' C' _ h => by cases h) (fun v n' C' _ h => ?_)
      cases h
      refine gj_istore d_Mo_cheapest_42 (by decide) ?_
      refine gj_iload d_Mo_cheapest_44 rfl ?_
      refine gj_if_lt (tgt := 66) d_Mo_cheapest_46 (by decide) (fun h46 => ?_) (fun h46 => ?_)
      · refine gj_iincN d_Mo_cheapest_66 rfl (by decide) ?_
        refine gj_goto (tgt := 30) d_Mo_cheapest_69 (by decide) ?_
        refine gj_less (lc' := [(0, .ref (70)), (1, .int (nI j)), (2, .int (nI p)), (3, .int (nI (i + 1)))]) ⟨rfl, rfl, rfl, rfl, trivial⟩ ?_
        refine ih (i + 1) (some p) (by omega) (fun k hk => by cases hk; omega) ?_
        have e : (@ite _ (0 ≤ P i ∧ pm_lt P i (some p)) (Classical.propDecidable _) (some i) (some p)) = (some p) := if_neg (fun q => by first | exact absurd h46 (Int32.not_lt.mpr q.1) | exact absurd h61 (Int32.not_le.mpr q.2))
        rw [← e]; exact hend
      · refine gj_iload_n d_Mo_cheapest_49 rfl ?_
        refine gj_if_lt (tgt := 64) d_Mo_cheapest_50 (by decide) (fun h50 => by have m50 : p < 0 := (nI_ltI (a := p) (b := 0) (by omega) (by omega)).mp h50; exact absurd m50 (show ¬ (p < 0) from by omega)) (fun h50 => ?_)
        have m50 : ¬ (p < 0) := fun q => h50 ((nI_ltI (a := p) (b := 0) (by omega) (by omega)).mpr q)
        refine gj_iload d_Mo_cheapest_53 rfl ?_
        refine gj_aload_n d_Mo_cheapest_55 rfl ?_
        refine gj_iload_n d_Mo_cheapest_56 rfl ?_
        refine gj_iload_n d_Mo_cheapest_57 rfl ?_
        refine gj_callV (as := [.int (nI j), .int (nI p)]) (rest := [.int (P i)]) (K1 := 0) (N1 := 0) d_Mo_cheapest_58 mo_Mo_priceOf gw_741 gw_743 gw_17 m70 rfl pl_Mo_priceOf (Nat.le_of_ble_eq_true rfl) (Nat.le_of_ble_eq_true rfl) (Nat.zero_le _) (Nat.zero_le _) (hP p (by omega)) (fun E n' C' _ h => by cases h) (fun v n' C' _ h => ?_)
        cases h
        refine gj_icmp_ge (tgt := 66) d_Mo_cheapest_61 (by decide) (fun h61 => ?_) (fun h61 => ?_)
        · refine gj_iincN d_Mo_cheapest_66 rfl (by decide) ?_
          refine gj_goto (tgt := 30) d_Mo_cheapest_69 (by decide) ?_
          refine gj_less (lc' := [(0, .ref (70)), (1, .int (nI j)), (2, .int (nI p)), (3, .int (nI (i + 1)))]) ⟨rfl, rfl, rfl, rfl, trivial⟩ ?_
          refine ih (i + 1) (some p) (by omega) (fun k hk => by cases hk; omega) ?_
          have e : (@ite _ (0 ≤ P i ∧ pm_lt P i (some p)) (Classical.propDecidable _) (some i) (some p)) = (some p) := if_neg (fun q => by first | exact absurd h46 (Int32.not_lt.mpr q.1) | exact absurd h61 (Int32.not_le.mpr q.2))
          rw [← e]; exact hend
        · refine gj_iload_n d_Mo_cheapest_64 rfl ?_
          refine gj_istore_n d_Mo_cheapest_65 (by decide) ?_
          refine gj_iincN d_Mo_cheapest_66 rfl (by decide) ?_
          refine gj_goto (tgt := 30) d_Mo_cheapest_69 (by decide) ?_
          refine gj_less (lc' := [(0, .ref (70)), (1, .int (nI j)), (2, .int (nI i)), (3, .int (nI (i + 1)))]) ⟨rfl, rfl, rfl, rfl, trivial⟩ ?_
          refine ih (i + 1) (some i) (by omega) (fun k hk => by cases hk; omega) ?_
          have e : (@ite _ (0 ≤ P i ∧ pm_lt P i (some p)) (Classical.propDecidable _) (some i) (some p)) = (some i) := if_pos ⟨Int32.not_lt.mp h46, Int32.not_le.mp h61⟩
          rw [← e]; exact hend
set_option maxHeartbeats 2000000 in
theorem c_Mo_cheapest {d K N n sg li nl ap ns dy : Nat} {tc : Int32} {C : Nat → va_E} {go : Nat → Int32} (m70 : C (70) = .inr (5, [.int (tc), .ref (71), .int (nI sg), .int (nI li), .ref (72), .int (nI nl), .ref (73), .int (nI ap), .int (nI ns), .ref (74), .ref (75), .ref (76), .ref (77), .ref (78), .ref (79), .ref (80), .ref (81), .ref (82), .ref (83), .ref (84), .int (nI dy), .ref (85), .ref (86), .ref (87), .ref (88), .ref (89), .ref (90)])) (m74 : C (74) = .inl (2, 20, .inl go)) (hns : ns ≤ 20) {j : Nat} (hj : j < ns) (hg : go j = 0) {P : Nat → Int32} (hP : ∀ (C2 : Nat → va_E) (tc : Int32), C2 70 = .inr (5, [.int (tc), .ref (71), .int (nI sg), .int (nI li), .ref (72), .int (nI nl), .ref (73), .int (nI ap), .int (nI ns), .ref (74), .ref (75), .ref (76), .ref (77), .ref (78), .ref (79), .ref (80), .ref (81), .ref (82), .ref (83), .ref (84), .int (nI dy), .ref (85), .ref (86), .ref (87), .ref (88), .ref (89), .ref (90)]) → (∀ y, y ≠ 70 → C2 y = C y) → ∀ a, a < 10 → gj_G md_Mo_priceOf d 0 0 0 0 0 [(0, .ref 70), (1, .int (nI j)), (2, .int (nI a))] [] n C2 (fun r => r = (gj_iv (P a), n, C2))) : gj_G md_Mo_cheapest (d + 1) K N 0 0 0 [(0, .ref (70)), (1, .int (nI j))] [] (n) C (fun r => r.1 = gj_iv (pf_cd (pm_ch P 10 0 none)) ∧ r.2.1 = n ∧ r.2.2 70 = .inr (5, [.int (0), .ref (71), .int (nI sg), .int (nI li), .ref (72), .int (nI nl), .ref (73), .int (nI ap), .int (nI ns), .ref (74), .ref (75), .ref (76), .ref (77), .ref (78), .ref (79), .ref (80), .ref (81), .ref (82), .ref (83), .ref (84), .int (nI dy), .ref (85), .ref (86), .ref (87), .ref (88), .ref (89), .ref (90)]) ∧ ∀ y, y ≠ 70 → r.2.2 y = C y) := by
  refine gj_aload_n d_Mo_cheapest_0 rfl ?_
  refine gj_aload_n d_Mo_cheapest_1 rfl ?_
  refine gj_iload_n d_Mo_cheapest_2 rfl ?_
  refine gj_callV (as := [.int (nI j)]) (rest := [.ref (70)]) (K1 := 0) (N1 := 0) d_Mo_cheapest_3 mo_Mo_noShipment gw_725 gw_727 gw_14 m70 rfl pl_Mo_noShipment (Nat.le_of_ble_eq_true rfl) (Nat.le_of_ble_eq_true rfl) (Nat.zero_le _) (Nat.zero_le _) (c_Mo_noShipment m70 m74 hns hj hg) (fun E n' C' _ h => by cases h) (fun v n' C' _ h => ?_)
  cases h
  refine gj_if_eq (tgt := 13) d_Mo_cheapest_6 (by decide) (fun h6 => ?_) (fun h6 => absurd (by decide) h6)
  refine gj_kc (v := 0) d_Mo_cheapest_13 (by decide) ?_
  refine gj_put d_Mo_cheapest_14 gp_Mo_7 m70 (Nat.le_of_ble_eq_true rfl) (fun _ => rfl) (fun _ => rfl) ?_
  obtain ⟨C1, eC1⟩ : ∃ Z0, Z0 = va_up C (70) (.inr (5, [.int (0), .ref (71), .int (nI sg), .int (nI li), .ref (72), .int (nI nl), .ref (73), .int (nI ap), .int (nI ns), .ref (74), .ref (75), .ref (76), .ref (77), .ref (78), .ref (79), .ref (80), .ref (81), .ref (82), .ref (83), .ref (84), .int (nI dy), .ref (85), .ref (86), .ref (87), .ref (88), .ref (89), .ref (90)])) := ⟨_, rfl⟩
  refine gj_mem eC1 ?_
  have f2 : C1 (70) = .inr (5, [.int (0), .ref (71), .int (nI sg), .int (nI li), .ref (72), .int (nI nl), .ref (73), .int (nI ap), .int (nI ns), .ref (74), .ref (75), .ref (76), .ref (77), .ref (78), .ref (79), .ref (80), .ref (81), .ref (82), .ref (83), .ref (84), .int (nI dy), .ref (85), .ref (86), .ref (87), .ref (88), .ref (89), .ref (90)]) := by rw [eC1]; exact va_up_self _ _ _
  have f3 : C1 (74) = .inl (2, 20, .inl go) := by rw [eC1, va_up_ne _ _ (by omega)]; exact m74
  refine gj_aload_n d_Mo_cheapest_17 rfl ?_
  refine gj_get d_Mo_cheapest_18 gf_Mo_7 f2 rfl ?_
  refine gj_if_eq (tgt := 26) d_Mo_cheapest_21 (by decide) (fun h21 => ?_) (fun h21 => absurd (by decide) h21)
  refine gj_kc (v := (-1)) d_Mo_cheapest_26 (by decide) ?_
  refine gj_istore_n d_Mo_cheapest_27 (by decide) ?_
  refine gj_kc (v := 0) d_Mo_cheapest_28 (by decide) ?_
  refine gj_istore_n d_Mo_cheapest_29 (by decide) ?_
  refine gj_less (lc' := [(0, .ref (70)), (1, .int (nI j)), (2, .int (-1)), (3, .int (nI 0))]) ⟨rfl, rfl, rfl, rfl, trivial⟩ ?_
  exact c_Mo_cheapest_loop f2 (hP C1 _ f2 (fun y c0 => by show C1 y = C y; rw [eC1, va_up_ne _ _ (by assumption)])) 10 0 none (by omega) (fun _ h => nomatch h) ⟨rfl, rfl, f2, fun y c0 => by show C1 y = C y; rw [eC1, va_up_ne _ _ (by assumption)]⟩
set_option maxHeartbeats 2000000 in
theorem c_Mo_differ_loop {d K N n sg li nl ap ns dy : Nat} {tc : Int32} {C : Nat → va_E} {go pr le : Nat → Int32} (m70 : C (70) = .inr (5, [.int (tc), .ref (71), .int (nI sg), .int (nI li), .ref (72), .int (nI nl), .ref (73), .int (nI ap), .int (nI ns), .ref (74), .ref (75), .ref (76), .ref (77), .ref (78), .ref (79), .ref (80), .ref (81), .ref (82), .ref (83), .ref (84), .int (nI dy), .ref (85), .ref (86), .ref (87), .ref (88), .ref (89), .ref (90)])) (m74 : C (74) = .inl (2, 20, .inl go)) (m79 : C (79) = .inl (0, 20, .inl pr)) (m80 : C (80) = .inl (0, 20, .inl le)) (hns : ns ≤ 20) {i : Int32} {Q : gj_R → Prop} : ∀ (m : Nat) (s : Nat) (b : Nat), s + m = ns → b ≤ s → Q (gj_iv (pm_df go le pr i m s b), n, C) → gj_G md_Mo_differ (d) K N 0 0 26 [(0, .ref (70)), (1, .int (i)), (2, .int (nI b)), (3, .int (nI s))] [] (n) C Q := by
  intro m
  induction m with
  | zero =>
    intro s b hm hb hend
    refine gj_iload_n d_Mo_differ_26 rfl ?_
    refine gj_aload_n d_Mo_differ_27 rfl ?_
    refine gj_get d_Mo_differ_28 gf_Mo_35 m70 rfl ?_
    refine gj_icmp_ge (tgt := 83) d_Mo_differ_31 (by decide) (fun h31 => ?_) (fun h31 => by have m31 : ¬ (ns ≤ s) := fun q => h31 ((nI_leI (a := ns) (b := s) (by omega) (by omega)).mpr q); exact absurd (show ns ≤ s from by omega) m31)
    have m31 : ns ≤ s := (nI_leI (a := ns) (b := s) (by omega) (by omega)).mp h31
    refine gj_kc (v := (-1)) d_Mo_differ_83 (by decide) ?_
    refine gj_iret rfl (Nat.zero_le _) (Nat.zero_le _) d_Mo_differ_84 ?_
    exact hend
  | succ m ih =>
    intro s b hm hb hend
    refine gj_iload_n d_Mo_differ_26 rfl ?_
    refine gj_aload_n d_Mo_differ_27 rfl ?_
    refine gj_get d_Mo_differ_28 gf_Mo_35 m70 rfl ?_
    refine gj_icmp_ge (tgt := 83) d_Mo_differ_31 (by decide) (fun h31 => by have m31 : ns ≤ s := (nI_leI (a := ns) (b := s) (by omega) (by omega)).mp h31; exact absurd m31 (show ¬ (ns ≤ s) from by omega)) (fun h31 => ?_)
    have m31 : ¬ (ns ≤ s) := fun q => h31 ((nI_leI (a := ns) (b := s) (by omega) (by omega)).mpr q)
    refine gj_aload_n d_Mo_differ_34 rfl ?_
    refine gj_get d_Mo_differ_35 gf_Mo_38 m70 rfl ?_
    refine gj_iload_n d_Mo_differ_38 rfl ?_
    refine gj_zald d_Mo_differ_39 m74 rfl (vp_in_nI (by omega) (by decide)) ?_
    refine gj_top (y := go (s)) (congrArg go (nI_clamp (by omega))) ?_
    refine gj_if_ne (tgt := 77) d_Mo_differ_40 (by decide) (fun h40 => ?_) (fun h40 => ?_)
    · refine gj_iincN d_Mo_differ_77 rfl (by decide) ?_
      refine gj_goto (tgt := 26) d_Mo_differ_80 (by decide) ?_
      refine gj_less (lc' := [(0, .ref (70)), (1, .int (i)), (2, .int (nI b)), (3, .int (nI (s + 1)))]) ⟨rfl, rfl, rfl, rfl, trivial⟩ ?_
      refine ih (s + 1) b (by omega) (by omega) ?_
      have e : pm_df go le pr i (m + 1) s b = pm_df go le pr i m (s + 1) b := if_neg (fun q => by first | exact h40 q.1 | exact absurd h49 (Int32.not_lt.mpr q.2.1) | exact q.2.2 h64)
      rw [e] at hend; exact hend
    · refine gj_aload_n d_Mo_differ_43 rfl ?_
      refine gj_get d_Mo_differ_44 gf_Mo_57 m70 rfl ?_
      refine gj_iload_n d_Mo_differ_47 rfl ?_
      refine gj_iald d_Mo_differ_48 m80 rfl (vp_in_nI (by omega) (by decide)) ?_
      refine gj_top (y := le (s)) (congrArg le (nI_clamp (by omega))) ?_
      refine gj_if_lt (tgt := 77) d_Mo_differ_49 (by decide) (fun h49 => ?_) (fun h49 => ?_)
      · refine gj_iincN d_Mo_differ_77 rfl (by decide) ?_
        refine gj_goto (tgt := 26) d_Mo_differ_80 (by decide) ?_
        refine gj_less (lc' := [(0, .ref (70)), (1, .int (i)), (2, .int (nI b)), (3, .int (nI (s + 1)))]) ⟨rfl, rfl, rfl, rfl, trivial⟩ ?_
        refine ih (s + 1) b (by omega) (by omega) ?_
        have e : pm_df go le pr i (m + 1) s b = pm_df go le pr i m (s + 1) b := if_neg (fun q => by first | exact h40 q.1 | exact absurd h49 (Int32.not_lt.mpr q.2.1) | exact q.2.2 h64)
        rw [e] at hend; exact hend
      · refine gj_aload_n d_Mo_differ_52 rfl ?_
        refine gj_get d_Mo_differ_53 gf_Mo_57 m70 rfl ?_
        refine gj_iload_n d_Mo_differ_56 rfl ?_
        refine gj_iald d_Mo_differ_57 m80 rfl (vp_in_nI (by omega) (by decide)) ?_
        refine gj_top (y := le (s)) (congrArg le (nI_clamp (by omega))) ?_
        refine gj_aload_n d_Mo_differ_58 rfl ?_
        refine gj_get d_Mo_differ_59 gf_Mo_54 m70 rfl ?_
        refine gj_iload_n d_Mo_differ_62 rfl ?_
        refine gj_iald d_Mo_differ_63 m79 rfl (vp_in_nI (by omega) (by decide)) ?_
        refine gj_top (y := pr (s)) (congrArg pr (nI_clamp (by omega))) ?_
        refine gj_icmp_eq (tgt := 77) d_Mo_differ_64 (by decide) (fun h64 => ?_) (fun h64 => ?_)
        · refine gj_iincN d_Mo_differ_77 rfl (by decide) ?_
          refine gj_goto (tgt := 26) d_Mo_differ_80 (by decide) ?_
          refine gj_less (lc' := [(0, .ref (70)), (1, .int (i)), (2, .int (nI b)), (3, .int (nI (s + 1)))]) ⟨rfl, rfl, rfl, rfl, trivial⟩ ?_
          refine ih (s + 1) b (by omega) (by omega) ?_
          have e : pm_df go le pr i (m + 1) s b = pm_df go le pr i m (s + 1) b := if_neg (fun q => by first | exact h40 q.1 | exact absurd h49 (Int32.not_lt.mpr q.2.1) | exact q.2.2 h64)
          rw [e] at hend; exact hend
        · refine gj_iload_n d_Mo_differ_67 rfl ?_
          refine gj_iload_n d_Mo_differ_68 rfl ?_
          refine gj_icmp_ne (tgt := 74) d_Mo_differ_69 (by decide) (fun h69 => ?_) (fun h69 => ?_)
          · refine gj_iincN d_Mo_differ_74 rfl (by decide) ?_
            refine gj_iincN d_Mo_differ_77 rfl (by decide) ?_
            refine gj_goto (tgt := 26) d_Mo_differ_80 (by decide) ?_
            refine gj_less (lc' := [(0, .ref (70)), (1, .int (i)), (2, .int (nI (b + 1))), (3, .int (nI (s + 1)))]) ⟨rfl, rfl, rfl, rfl, trivial⟩ ?_
            refine ih (s + 1) (b + 1) (by omega) (by omega) ?_
            have e : pm_df go le pr i (m + 1) s b = pm_df go le pr i m (s + 1) (b + 1) := (if_pos ⟨h40, Int32.not_lt.mp h49, h64⟩).trans (if_neg h69)
            rw [e] at hend; exact hend
          · refine gj_iload_n d_Mo_differ_72 rfl ?_
            refine gj_iret rfl (Nat.zero_le _) (Nat.zero_le _) d_Mo_differ_73 ?_
            have e : pm_df go le pr i (m + 1) s b = nI s := (if_pos ⟨h40, Int32.not_lt.mp h49, h64⟩).trans (if_pos h69)
            rw [e] at hend; exact hend
set_option maxHeartbeats 2000000 in
theorem c_Mo_differ {d K N n sg li nl ap ns dy : Nat} {tc : Int32} {C : Nat → va_E} {go pr le : Nat → Int32} (m70 : C (70) = .inr (5, [.int (tc), .ref (71), .int (nI sg), .int (nI li), .ref (72), .int (nI nl), .ref (73), .int (nI ap), .int (nI ns), .ref (74), .ref (75), .ref (76), .ref (77), .ref (78), .ref (79), .ref (80), .ref (81), .ref (82), .ref (83), .ref (84), .int (nI dy), .ref (85), .ref (86), .ref (87), .ref (88), .ref (89), .ref (90)])) (m74 : C (74) = .inl (2, 20, .inl go)) (m79 : C (79) = .inl (0, 20, .inl pr)) (m80 : C (80) = .inl (0, 20, .inl le)) (hns : ns ≤ 20) {i : Int32} (hi : 0 ≤ i) : gj_G md_Mo_differ (d) K N 0 0 0 [(0, .ref (70)), (1, .int (i))] [] (n) C (fun r => r.1 = gj_iv (pm_df go le pr i ns 0 0) ∧ r.2.1 = n ∧ r.2.2 70 = .inr (5, [.int (0), .ref (71), .int (nI sg), .int (nI li), .ref (72), .int (nI nl), .ref (73), .int (nI ap), .int (nI ns), .ref (74), .ref (75), .ref (76), .ref (77), .ref (78), .ref (79), .ref (80), .ref (81), .ref (82), .ref (83), .ref (84), .int (nI dy), .ref (85), .ref (86), .ref (87), .ref (88), .ref (89), .ref (90)]) ∧ ∀ y, y ≠ 70 → r.2.2 y = C y) := by
  refine gj_aload_n d_Mo_differ_0 rfl ?_
  refine gj_iload_n d_Mo_differ_1 rfl ?_
  refine gj_if_ge (tgt := 9) d_Mo_differ_2 (by decide) (fun h2 => ?_) (fun h2 => absurd (hi) h2)
  refine gj_kc (v := 0) d_Mo_differ_9 (by decide) ?_
  refine gj_put d_Mo_differ_10 gp_Mo_7 m70 (Nat.le_of_ble_eq_true rfl) (fun _ => rfl) (fun _ => rfl) ?_
  obtain ⟨C1, eC1⟩ : ∃ Z0, Z0 = va_up C (70) (.inr (5, [.int (0), .ref (71), .int (nI sg), .int (nI li), .ref (72), .int (nI nl), .ref (73), .int (nI ap), .int (nI ns), .ref (74), .ref (75), .ref (76), .ref (77), .ref (78), .ref (79), .ref (80), .ref (81), .ref (82), .ref (83), .ref (84), .int (nI dy), .ref (85), .ref (86), .ref (87), .ref (88), .ref (89), .ref (90)])) := ⟨_, rfl⟩
  refine gj_mem eC1 ?_
  have f2 : C1 (70) = .inr (5, [.int (0), .ref (71), .int (nI sg), .int (nI li), .ref (72), .int (nI nl), .ref (73), .int (nI ap), .int (nI ns), .ref (74), .ref (75), .ref (76), .ref (77), .ref (78), .ref (79), .ref (80), .ref (81), .ref (82), .ref (83), .ref (84), .int (nI dy), .ref (85), .ref (86), .ref (87), .ref (88), .ref (89), .ref (90)]) := by rw [eC1]; exact va_up_self _ _ _
  have f3 : C1 (74) = .inl (2, 20, .inl go) := by rw [eC1, va_up_ne _ _ (by omega)]; exact m74
  have f4 : C1 (79) = .inl (0, 20, .inl pr) := by rw [eC1, va_up_ne _ _ (by omega)]; exact m79
  have f5 : C1 (80) = .inl (0, 20, .inl le) := by rw [eC1, va_up_ne _ _ (by omega)]; exact m80
  refine gj_aload_n d_Mo_differ_13 rfl ?_
  refine gj_get d_Mo_differ_14 gf_Mo_7 f2 rfl ?_
  refine gj_if_eq (tgt := 22) d_Mo_differ_17 (by decide) (fun h17 => ?_) (fun h17 => absurd (by decide) h17)
  refine gj_kc (v := 0) d_Mo_differ_22 (by decide) ?_
  refine gj_istore_n d_Mo_differ_23 (by decide) ?_
  refine gj_kc (v := 0) d_Mo_differ_24 (by decide) ?_
  refine gj_istore_n d_Mo_differ_25 (by decide) ?_
  refine gj_less (lc' := [(0, .ref (70)), (1, .int (i)), (2, .int (nI 0)), (3, .int (nI 0))]) ⟨rfl, rfl, rfl, rfl, trivial⟩ ?_
  exact c_Mo_differ_loop f2 f3 f4 f5 hns ns 0 0 (by omega) (by omega) ⟨rfl, rfl, f2, fun y c0 => by show C1 y = C y; rw [eC1, va_up_ne _ _ (by assumption)]⟩
set_option maxHeartbeats 2000000 in
theorem c_Mo_differ_x1 {d K N n sg li nl ap ns dy : Nat} {tc : Int32} {C : Nat → va_E} (m70 : C (70) = .inr (5, [.int (tc), .ref (71), .int (nI sg), .int (nI li), .ref (72), .int (nI nl), .ref (73), .int (nI ap), .int (nI ns), .ref (74), .ref (75), .ref (76), .ref (77), .ref (78), .ref (79), .ref (80), .ref (81), .ref (82), .ref (83), .ref (84), .int (nI dy), .ref (85), .ref (86), .ref (87), .ref (88), .ref (89), .ref (90)])) {i : Int32} (hi : i < 0) : gj_G md_Mo_differ (d) K N 0 0 0 [(0, .ref (70)), (1, .int (i))] [] (n) C (fun r => r.1 = gj_iv 0 ∧ r.2.1 = n ∧ r.2.2 70 = .inr (5, [.int (1), .ref (71), .int (nI sg), .int (nI li), .ref (72), .int (nI nl), .ref (73), .int (nI ap), .int (nI ns), .ref (74), .ref (75), .ref (76), .ref (77), .ref (78), .ref (79), .ref (80), .ref (81), .ref (82), .ref (83), .ref (84), .int (nI dy), .ref (85), .ref (86), .ref (87), .ref (88), .ref (89), .ref (90)]) ∧ ∀ y, y ≠ 70 → r.2.2 y = C y) := by
  refine gj_aload_n d_Mo_differ_0 rfl ?_
  refine gj_iload_n d_Mo_differ_1 rfl ?_
  refine gj_if_ge (tgt := 9) d_Mo_differ_2 (by decide) (fun h2 => absurd h2 (Int32.not_le.mpr hi)) (fun h2 => ?_)
  refine gj_kc (v := 1) d_Mo_differ_5 (by decide) ?_
  refine gj_goto (tgt := 10) d_Mo_differ_6 (by decide) ?_
  refine gj_put d_Mo_differ_10 gp_Mo_7 m70 (Nat.le_of_ble_eq_true rfl) (fun _ => rfl) (fun _ => rfl) ?_
  obtain ⟨C1, eC1⟩ : ∃ Z0, Z0 = va_up C (70) (.inr (5, [.int (1), .ref (71), .int (nI sg), .int (nI li), .ref (72), .int (nI nl), .ref (73), .int (nI ap), .int (nI ns), .ref (74), .ref (75), .ref (76), .ref (77), .ref (78), .ref (79), .ref (80), .ref (81), .ref (82), .ref (83), .ref (84), .int (nI dy), .ref (85), .ref (86), .ref (87), .ref (88), .ref (89), .ref (90)])) := ⟨_, rfl⟩
  refine gj_mem eC1 ?_
  have f2 : C1 (70) = .inr (5, [.int (1), .ref (71), .int (nI sg), .int (nI li), .ref (72), .int (nI nl), .ref (73), .int (nI ap), .int (nI ns), .ref (74), .ref (75), .ref (76), .ref (77), .ref (78), .ref (79), .ref (80), .ref (81), .ref (82), .ref (83), .ref (84), .int (nI dy), .ref (85), .ref (86), .ref (87), .ref (88), .ref (89), .ref (90)]) := by rw [eC1]; exact va_up_self _ _ _
  refine gj_aload_n d_Mo_differ_13 rfl ?_
  refine gj_get d_Mo_differ_14 gf_Mo_7 f2 rfl ?_
  refine gj_if_eq (tgt := 22) d_Mo_differ_17 (by decide) (fun h17 => absurd h17 (by decide)) (fun h17 => ?_)
  refine gj_kc (v := 0) d_Mo_differ_20 (by decide) ?_
  refine gj_iret rfl (Nat.zero_le _) (Nat.zero_le _) d_Mo_differ_21 ?_
  exact ⟨rfl, rfl, f2, fun y c0 => by show C1 y = C y; rw [eC1, va_up_ne _ _ (by assumption)]⟩
set_option maxHeartbeats 2000000 in
theorem c_Mo_contract_x1 {d K N n sg li nl ap ns dy : Nat} {tc : Int32} {C : Nat → va_E} (m70 : C (70) = .inr (5, [.int (tc), .ref (71), .int (nI sg), .int (nI li), .ref (72), .int (nI nl), .ref (73), .int (nI ap), .int (nI ns), .ref (74), .ref (75), .ref (76), .ref (77), .ref (78), .ref (79), .ref (80), .ref (81), .ref (82), .ref (83), .ref (84), .int (nI dy), .ref (85), .ref (86), .ref (87), .ref (88), .ref (89), .ref (90)])) {a fr u dw : Int32} (h : ¬ ((0 ≤ a ∧ a ≤ 9) ∧ (0 ≤ fr ∧ fr ≤ 100) ∧ (1 ≤ dw ∧ dw ≤ 1000) ∧ (0 ≤ u ∧ u ≤ dw))) : gj_G md_Mo_contract (d + 1) K N 0 0 0 [(0, .ref (70)), (1, .int (a)), (2, .int (fr)), (3, .int (u)), (4, .int (dw))] [] (n) C (fun r => r.1 = gj_iv 0 ∧ r.2.1 = n ∧ r.2.2 70 = .inr (5, [.int (1), .ref (71), .int (nI sg), .int (nI li), .ref (72), .int (nI nl), .ref (73), .int (nI ap), .int (nI ns), .ref (74), .ref (75), .ref (76), .ref (77), .ref (78), .ref (79), .ref (80), .ref (81), .ref (82), .ref (83), .ref (84), .int (nI dy), .ref (85), .ref (86), .ref (87), .ref (88), .ref (89), .ref (90)]) ∧ ∀ y, y ≠ 70 → r.2.2 y = C y) := by
  refine gj_aload_n d_Mo_contract_0 rfl ?_
  refine gj_iload_n d_Mo_contract_1 rfl ?_
  refine gj_kc (v := 0) d_Mo_contract_2 (by decide) ?_
  refine gj_kb (v := 9) d_Mo_contract_3 (by decide) ?_
  by_cases a5 : 0 ≤ a ∧ a ≤ 9
  · refine gj_callS (as := [.int (a), .int (0), .int (9)]) (rest := [.ref (70)]) (K1 := 0) (N1 := 0) d_Mo_contract_5 mo_Mo_not gw_687 gw_688 gw_25 pl_Mo_not (Nat.le_of_ble_eq_true rfl) (Nat.le_of_ble_eq_true rfl) (Nat.zero_le _) (Nat.zero_le _) (c_Mo_not (a) (0) (9)) (fun E n' C' _ h => by cases h) (fun v n' C' _ h => ?_)
    cases h
    refine gj_top (y := 0) (pm_nt0 a5) ?_
    refine gj_if_ne (tgt := 43) d_Mo_contract_8 (by decide) (fun h8 => absurd (by decide) h8) (fun h8 => ?_)
    refine gj_iload_n d_Mo_contract_11 rfl ?_
    refine gj_kc (v := 0) d_Mo_contract_12 (by decide) ?_
    refine gj_kb (v := 100) d_Mo_contract_13 (by decide) ?_
    by_cases a15 : 0 ≤ fr ∧ fr ≤ 100
    · refine gj_callS (as := [.int (fr), .int (0), .int (100)]) (rest := [.ref (70)]) (K1 := 0) (N1 := 0) d_Mo_contract_15 mo_Mo_not gw_687 gw_688 gw_25 pl_Mo_not (Nat.le_of_ble_eq_true rfl) (Nat.le_of_ble_eq_true rfl) (Nat.zero_le _) (Nat.zero_le _) (c_Mo_not (fr) (0) (100)) (fun E n' C' _ h => by cases h) (fun v n' C' _ h => ?_)
      cases h
      refine gj_top (y := 0) (pm_nt0 a15) ?_
      refine gj_if_ne (tgt := 43) d_Mo_contract_18 (by decide) (fun h18 => absurd (by decide) h18) (fun h18 => ?_)
      refine gj_iload d_Mo_contract_21 rfl ?_
      refine gj_kc (v := 1) d_Mo_contract_23 (by decide) ?_
      refine gj_ks (v := 1000) d_Mo_contract_24 (by decide) ?_
      by_cases a27 : 1 ≤ dw ∧ dw ≤ 1000
      · refine gj_callS (as := [.int (dw), .int (1), .int (1000)]) (rest := [.ref (70)]) (K1 := 0) (N1 := 0) d_Mo_contract_27 mo_Mo_not gw_687 gw_688 gw_25 pl_Mo_not (Nat.le_of_ble_eq_true rfl) (Nat.le_of_ble_eq_true rfl) (Nat.zero_le _) (Nat.zero_le _) (c_Mo_not (dw) (1) (1000)) (fun E n' C' _ h => by cases h) (fun v n' C' _ h => ?_)
        cases h
        refine gj_top (y := 0) (pm_nt0 a27) ?_
        refine gj_if_ne (tgt := 43) d_Mo_contract_30 (by decide) (fun h30 => absurd (by decide) h30) (fun h30 => ?_)
        refine gj_iload_n d_Mo_contract_33 rfl ?_
        refine gj_kc (v := 0) d_Mo_contract_34 (by decide) ?_
        refine gj_iload d_Mo_contract_35 rfl ?_
        by_cases a37 : 0 ≤ u ∧ u ≤ dw
        · refine gj_callS (as := [.int (u), .int (0), .int (dw)]) (rest := [.ref (70)]) (K1 := 0) (N1 := 0) d_Mo_contract_37 mo_Mo_not gw_687 gw_688 gw_25 pl_Mo_not (Nat.le_of_ble_eq_true rfl) (Nat.le_of_ble_eq_true rfl) (Nat.zero_le _) (Nat.zero_le _) (c_Mo_not (u) (0) (dw)) (fun E n' C' _ h => by cases h) (fun v n' C' _ h => ?_)
          cases h
          refine gj_top (y := 0) (pm_nt0 a37) ?_
          refine gj_if_eq (tgt := 47) d_Mo_contract_40 (by decide) (fun h40 => ?_) (fun h40 => absurd (by decide) h40)
          exact absurd ⟨a5, a15, a27, a37⟩ h
        · refine gj_callS (as := [.int (u), .int (0), .int (dw)]) (rest := [.ref (70)]) (K1 := 0) (N1 := 0) d_Mo_contract_37 mo_Mo_not gw_687 gw_688 gw_25 pl_Mo_not (Nat.le_of_ble_eq_true rfl) (Nat.le_of_ble_eq_true rfl) (Nat.zero_le _) (Nat.zero_le _) (c_Mo_not (u) (0) (dw)) (fun E n' C' _ h => by cases h) (fun v n' C' _ h => ?_)
          cases h
          refine gj_top (y := 1) (pm_nt1 a37) ?_
          refine gj_if_eq (tgt := 47) d_Mo_contract_40 (by decide) (fun h40 => absurd h40 (by decide)) (fun h40 => ?_)
          refine gj_kc (v := 1) d_Mo_contract_43 (by decide) ?_
          refine gj_goto (tgt := 48) d_Mo_contract_44 (by decide) ?_
          refine gj_put d_Mo_contract_48 gp_Mo_7 m70 (Nat.le_of_ble_eq_true rfl) (fun _ => rfl) (fun _ => rfl) ?_
          obtain ⟨C1, eC1⟩ : ∃ Z0, Z0 = va_up C (70) (.inr (5, [.int (1), .ref (71), .int (nI sg), .int (nI li), .ref (72), .int (nI nl), .ref (73), .int (nI ap), .int (nI ns), .ref (74), .ref (75), .ref (76), .ref (77), .ref (78), .ref (79), .ref (80), .ref (81), .ref (82), .ref (83), .ref (84), .int (nI dy), .ref (85), .ref (86), .ref (87), .ref (88), .ref (89), .ref (90)])) := ⟨_, rfl⟩
          refine gj_mem eC1 ?_
          have f2 : C1 (70) = .inr (5, [.int (1), .ref (71), .int (nI sg), .int (nI li), .ref (72), .int (nI nl), .ref (73), .int (nI ap), .int (nI ns), .ref (74), .ref (75), .ref (76), .ref (77), .ref (78), .ref (79), .ref (80), .ref (81), .ref (82), .ref (83), .ref (84), .int (nI dy), .ref (85), .ref (86), .ref (87), .ref (88), .ref (89), .ref (90)]) := by rw [eC1]; exact va_up_self _ _ _
          refine gj_aload_n d_Mo_contract_51 rfl ?_
          refine gj_get d_Mo_contract_52 gf_Mo_7 f2 rfl ?_
          refine gj_if_eq (tgt := 60) d_Mo_contract_55 (by decide) (fun h55 => absurd h55 (by decide)) (fun h55 => ?_)
          refine gj_kc (v := 0) d_Mo_contract_58 (by decide) ?_
          refine gj_iret rfl (Nat.zero_le _) (Nat.zero_le _) d_Mo_contract_59 ?_
          exact ⟨rfl, rfl, f2, fun y c0 => by show C1 y = C y; rw [eC1, va_up_ne _ _ (by assumption)]⟩
      · refine gj_callS (as := [.int (dw), .int (1), .int (1000)]) (rest := [.ref (70)]) (K1 := 0) (N1 := 0) d_Mo_contract_27 mo_Mo_not gw_687 gw_688 gw_25 pl_Mo_not (Nat.le_of_ble_eq_true rfl) (Nat.le_of_ble_eq_true rfl) (Nat.zero_le _) (Nat.zero_le _) (c_Mo_not (dw) (1) (1000)) (fun E n' C' _ h => by cases h) (fun v n' C' _ h => ?_)
        cases h
        refine gj_top (y := 1) (pm_nt1 a27) ?_
        refine gj_if_ne (tgt := 43) d_Mo_contract_30 (by decide) (fun h30 => ?_) (fun h30 => absurd h30 (by decide))
        refine gj_kc (v := 1) d_Mo_contract_43 (by decide) ?_
        refine gj_goto (tgt := 48) d_Mo_contract_44 (by decide) ?_
        refine gj_put d_Mo_contract_48 gp_Mo_7 m70 (Nat.le_of_ble_eq_true rfl) (fun _ => rfl) (fun _ => rfl) ?_
        obtain ⟨C3, eC3⟩ : ∃ Z0, Z0 = va_up C (70) (.inr (5, [.int (1), .ref (71), .int (nI sg), .int (nI li), .ref (72), .int (nI nl), .ref (73), .int (nI ap), .int (nI ns), .ref (74), .ref (75), .ref (76), .ref (77), .ref (78), .ref (79), .ref (80), .ref (81), .ref (82), .ref (83), .ref (84), .int (nI dy), .ref (85), .ref (86), .ref (87), .ref (88), .ref (89), .ref (90)])) := ⟨_, rfl⟩
        refine gj_mem eC3 ?_
        have f4 : C3 (70) = .inr (5, [.int (1), .ref (71), .int (nI sg), .int (nI li), .ref (72), .int (nI nl), .ref (73), .int (nI ap), .int (nI ns), .ref (74), .ref (75), .ref (76), .ref (77), .ref (78), .ref (79), .ref (80), .ref (81), .ref (82), .ref (83), .ref (84), .int (nI dy), .ref (85), .ref (86), .ref (87), .ref (88), .ref (89), .ref (90)]) := by rw [eC3]; exact va_up_self _ _ _
        refine gj_aload_n d_Mo_contract_51 rfl ?_
        refine gj_get d_Mo_contract_52 gf_Mo_7 f4 rfl ?_
        refine gj_if_eq (tgt := 60) d_Mo_contract_55 (by decide) (fun h55 => absurd h55 (by decide)) (fun h55 => ?_)
        refine gj_kc (v := 0) d_Mo_contract_58 (by decide) ?_
        refine gj_iret rfl (Nat.zero_le _) (Nat.zero_le _) d_Mo_contract_59 ?_
        exact ⟨rfl, rfl, f4, fun y c0 => by show C3 y = C y; rw [eC3, va_up_ne _ _ (by assumption)]⟩
    · refine gj_callS (as := [.int (fr), .int (0), .int (100)]) (rest := [.ref (70)]) (K1 := 0) (N1 := 0) d_Mo_contract_15 mo_Mo_not gw_687 gw_688 gw_25 pl_Mo_not (Nat.le_of_ble_eq_true rfl) (Nat.le_of_ble_eq_true rfl) (Nat.zero_le _) (Nat.zero_le _) (c_Mo_not (fr) (0) (100)) (fun E n' C' _ h => by cases h) (fun v n' C' _ h => ?_)
      cases h
      refine gj_top (y := 1) (pm_nt1 a15) ?_
      refine gj_if_ne (tgt := 43) d_Mo_contract_18 (by decide) (fun h18 => ?_) (fun h18 => absurd h18 (by decide))
      refine gj_kc (v := 1) d_Mo_contract_43 (by decide) ?_
      refine gj_goto (tgt := 48) d_Mo_contract_44 (by decide) ?_
      refine gj_put d_Mo_contract_48 gp_Mo_7 m70 (Nat.le_of_ble_eq_true rfl) (fun _ => rfl) (fun _ => rfl) ?_
      obtain ⟨C5, eC5⟩ : ∃ Z0, Z0 = va_up C (70) (.inr (5, [.int (1), .ref (71), .int (nI sg), .int (nI li), .ref (72), .int (nI nl), .ref (73), .int (nI ap), .int (nI ns), .ref (74), .ref (75), .ref (76), .ref (77), .ref (78), .ref (79), .ref (80), .ref (81), .ref (82), .ref (83), .ref (84), .int (nI dy), .ref (85), .ref (86), .ref (87), .ref (88), .ref (89), .ref (90)])) := ⟨_, rfl⟩
      refine gj_mem eC5 ?_
      have f6 : C5 (70) = .inr (5, [.int (1), .ref (71), .int (nI sg), .int (nI li), .ref (72), .int (nI nl), .ref (73), .int (nI ap), .int (nI ns), .ref (74), .ref (75), .ref (76), .ref (77), .ref (78), .ref (79), .ref (80), .ref (81), .ref (82), .ref (83), .ref (84), .int (nI dy), .ref (85), .ref (86), .ref (87), .ref (88), .ref (89), .ref (90)]) := by rw [eC5]; exact va_up_self _ _ _
      refine gj_aload_n d_Mo_contract_51 rfl ?_
      refine gj_get d_Mo_contract_52 gf_Mo_7 f6 rfl ?_
      refine gj_if_eq (tgt := 60) d_Mo_contract_55 (by decide) (fun h55 => absurd h55 (by decide)) (fun h55 => ?_)
      refine gj_kc (v := 0) d_Mo_contract_58 (by decide) ?_
      refine gj_iret rfl (Nat.zero_le _) (Nat.zero_le _) d_Mo_contract_59 ?_
      exact ⟨rfl, rfl, f6, fun y c0 => by show C5 y = C y; rw [eC5, va_up_ne _ _ (by assumption)]⟩
  · refine gj_callS (as := [.int (a), .int (0), .int (9)]) (rest := [.ref (70)]) (K1 := 0) (N1 := 0) d_Mo_contract_5 mo_Mo_not gw_687 gw_688 gw_25 pl_Mo_not (Nat.le_of_ble_eq_true rfl) (Nat.le_of_ble_eq_true rfl) (Nat.zero_le _) (Nat.zero_le _) (c_Mo_not (a) (0) (9)) (fun E n' C' _ h => by cases h) (fun v n' C' _ h => ?_)
    cases h
    refine gj_top (y := 1) (pm_nt1 a5) ?_
    refine gj_if_ne (tgt := 43) d_Mo_contract_8 (by decide) (fun h8 => ?_) (fun h8 => absurd h8 (by decide))
    refine gj_kc (v := 1) d_Mo_contract_43 (by decide) ?_
    refine gj_goto (tgt := 48) d_Mo_contract_44 (by decide) ?_
    refine gj_put d_Mo_contract_48 gp_Mo_7 m70 (Nat.le_of_ble_eq_true rfl) (fun _ => rfl) (fun _ => rfl) ?_
    obtain ⟨C7, eC7⟩ : ∃ Z0, Z0 = va_up C (70) (.inr (5, [.int (1), .ref (71), .int (nI sg), .int (nI li), .ref (72), .int (nI nl), .ref (73), .int (nI ap), .int (nI ns), .ref (74), .ref (75), .ref (76), .ref (77), .ref (78), .ref (79), .ref (80), .ref (81), .ref (82), .ref (83), .ref (84), .int (nI dy), .ref (85), .ref (86), .ref (87), .ref (88), .ref (89), .ref (90)])) := ⟨_, rfl⟩
    refine gj_mem eC7 ?_
    have f8 : C7 (70) = .inr (5, [.int (1), .ref (71), .int (nI sg), .int (nI li), .ref (72), .int (nI nl), .ref (73), .int (nI ap), .int (nI ns), .ref (74), .ref (75), .ref (76), .ref (77), .ref (78), .ref (79), .ref (80), .ref (81), .ref (82), .ref (83), .ref (84), .int (nI dy), .ref (85), .ref (86), .ref (87), .ref (88), .ref (89), .ref (90)]) := by rw [eC7]; exact va_up_self _ _ _
    refine gj_aload_n d_Mo_contract_51 rfl ?_
    refine gj_get d_Mo_contract_52 gf_Mo_7 f8 rfl ?_
    refine gj_if_eq (tgt := 60) d_Mo_contract_55 (by decide) (fun h55 => absurd h55 (by decide)) (fun h55 => ?_)
    refine gj_kc (v := 0) d_Mo_contract_58 (by decide) ?_
    refine gj_iret rfl (Nat.zero_le _) (Nat.zero_le _) d_Mo_contract_59 ?_
    exact ⟨rfl, rfl, f8, fun y c0 => by show C7 y = C y; rw [eC7, va_up_ne _ _ (by assumption)]⟩
set_option maxHeartbeats 2000000 in
theorem c_Mo_contract_loop {d K N n sg li nl ap ns dy : Nat} {tc : Int32} {C : Nat → va_E} {cn fm up dn : Nat → Int32} {a kk : Nat} (m70 : C (70) = .inr (5, [.int (tc), .ref (71), .int (nI sg), .int (nI li), .ref (72), .int (nI nl), .ref (73), .int (nI ap), .int (nI ns), .ref (74), .ref (75), .ref (76), .ref (77), .ref (78), .ref (79), .ref (80), .ref (81), .ref (82), .ref (83), .ref (84), .int (nI dy), .ref (85), .ref (86), .ref (87), .ref (88), .ref (89), .ref (90)])) (m81 : C (81) = .inl (0, 10, .inl cn)) (m82 : C (82) = .inl (0, 40, .inl fm)) (m83 : C (83) = .inl (0, 40, .inl up)) (m84 : C (84) = .inl (0, 40, .inl dn)) (ha : a < 10) (hcn : cn a = nI kk) (hkk : kk ≤ 4) {fr u dw : Int32} {Q : gj_R → Prop} : ∀ (m : Nat) (i : Nat), i + m = kk → gj_G md_Mo_contract (d + 1) K N 0 0 97 [(0, .ref 70), (1, .int (nI a)), (2, .int fr), (3, .int u), (4, .int dw), (5, .int (nI (4 * a + pf_pl (fun i => fm (4 * a + i)) fr m i)))] [] n C Q → gj_G md_Mo_contract (d + 1) K N 0 0 65 [(0, .ref (70)), (1, .int (nI a)), (2, .int (fr)), (3, .int (u)), (4, .int (dw)), (5, .int (nI (4 * a + i)))] [] (n) C Q := by
  intro m
  induction m with
  | zero =>
    intro i hm hend
    refine gj_iload d_Mo_contract_65 rfl ?_
    refine gj_kc (v := 4) d_Mo_contract_67 (by decide) ?_
    refine gj_iload_n d_Mo_contract_68 rfl ?_
    refine gj_imul d_Mo_contract_69 ?_
    refine gj_top (y := nI (4 * a)) (nI_mul (4) (a)) ?_
    refine gj_aload_n d_Mo_contract_70 rfl ?_
    refine gj_get d_Mo_contract_71 gf_Mo_60 m70 rfl ?_
    refine gj_iload_n d_Mo_contract_74 rfl ?_
    refine gj_iald d_Mo_contract_75 m81 rfl (vp_in_nI (by omega) (by decide)) ?_
    refine gj_top (y := cn (a)) (congrArg cn (nI_clamp (by omega))) ?_
    refine gj_top hcn ?_
    refine gj_iadd d_Mo_contract_76 ?_
    refine gj_top (y := nI ((4 * a) + kk)) (nI_add (4 * a) (kk)) ?_
    refine gj_icmp_ge (tgt := 97) d_Mo_contract_77 (by decide) (fun h77 => ?_) (fun h77 => by have m77 : ¬ ((4 * a) + kk ≤ 4 * a + i) := fun q => h77 ((nI_leI (a := (4 * a) + kk) (b := 4 * a + i) (by omega) (by omega)).mpr q); exact absurd (show (4 * a) + kk ≤ 4 * a + i from by omega) m77)
    have m77 : (4 * a) + kk ≤ 4 * a + i := (nI_leI (a := (4 * a) + kk) (b := 4 * a + i) (by omega) (by omega)).mp h77
    refine gj_less (lc' := [(0, .ref (70)), (1, .int (nI a)), (2, .int (fr)), (3, .int (u)), (4, .int (dw)), (5, .int (nI (4 * a + i)))]) ⟨rfl, rfl, rfl, rfl, rfl, rfl, trivial⟩ ?_
    exact hend
  | succ m ih =>
    intro i hm hend
    refine gj_iload d_Mo_contract_65 rfl ?_
    refine gj_kc (v := 4) d_Mo_contract_67 (by decide) ?_
    refine gj_iload_n d_Mo_contract_68 rfl ?_
    refine gj_imul d_Mo_contract_69 ?_
    refine gj_top (y := nI (4 * a)) (nI_mul (4) (a)) ?_
    refine gj_aload_n d_Mo_contract_70 rfl ?_
    refine gj_get d_Mo_contract_71 gf_Mo_60 m70 rfl ?_
    refine gj_iload_n d_Mo_contract_74 rfl ?_
    refine gj_iald d_Mo_contract_75 m81 rfl (vp_in_nI (by omega) (by decide)) ?_
    refine gj_top (y := cn (a)) (congrArg cn (nI_clamp (by omega))) ?_
    refine gj_top hcn ?_
    refine gj_iadd d_Mo_contract_76 ?_
    refine gj_top (y := nI ((4 * a) + kk)) (nI_add (4 * a) (kk)) ?_
    refine gj_icmp_ge (tgt := 97) d_Mo_contract_77 (by decide) (fun h77 => by have m77 : (4 * a) + kk ≤ 4 * a + i := (nI_leI (a := (4 * a) + kk) (b := 4 * a + i) (by omega) (by omega)).mp h77; exact absurd m77 (show ¬ ((4 * a) + kk ≤ 4 * a + i) from by omega)) (fun h77 => ?_)
    have m77 : ¬ ((4 * a) + kk ≤ 4 * a + i) := fun q => h77 ((nI_leI (a := (4 * a) + kk) (b := 4 * a + i) (by omega) (by omega)).mpr q)
    refine gj_aload_n d_Mo_contract_80 rfl ?_
    refine gj_get d_Mo_contract_81 gf_Mo_63 m70 rfl ?_
    refine gj_iload d_Mo_contract_84 rfl ?_
    refine gj_iald d_Mo_contract_86 m82 rfl (vp_in_nI (by omega) (by decide)) ?_
    refine gj_top (y := fm (4 * a + i)) (congrArg fm (nI_clamp (by omega))) ?_
    refine gj_iload_n d_Mo_contract_87 rfl ?_
    refine gj_icmp_eq (tgt := 97) d_Mo_contract_88 (by decide) (fun h88 => ?_) (fun h88 => ?_)
    · refine gj_less (lc' := [(0, .ref (70)), (1, .int (nI a)), (2, .int (fr)), (3, .int (u)), (4, .int (dw)), (5, .int (nI (4 * a + i)))]) ⟨rfl, rfl, rfl, rfl, rfl, rfl, trivial⟩ ?_
      have e : pf_pl (fun i => fm (4 * a + i)) fr (m + 1) i = i := if_pos h88
      rw [e] at hend; exact hend
    · refine gj_iincN d_Mo_contract_91 rfl (by decide) ?_
      refine gj_goto (tgt := 65) d_Mo_contract_94 (by decide) ?_
      refine gj_less (lc' := [(0, .ref (70)), (1, .int (nI a)), (2, .int (fr)), (3, .int (u)), (4, .int (dw)), (5, .int (nI (4 * a + i + 1)))]) ⟨rfl, rfl, rfl, rfl, rfl, rfl, trivial⟩ ?_
      rw [Nat.add_assoc]
      refine ih (i + 1) (by omega) ?_
      have e : pf_pl (fun i => fm (4 * a + i)) fr (m + 1) i = pf_pl (fun i => fm (4 * a + i)) fr m (i + 1) := if_neg h88
      rw [e] at hend; exact hend
set_option maxHeartbeats 2000000 in
theorem c_Mo_contract_x2 {d K N n sg li nl ap ns dy : Nat} {tc : Int32} {C : Nat → va_E} {cn fm up dn : Nat → Int32} {a kk : Nat} (m70 : C (70) = .inr (5, [.int (tc), .ref (71), .int (nI sg), .int (nI li), .ref (72), .int (nI nl), .ref (73), .int (nI ap), .int (nI ns), .ref (74), .ref (75), .ref (76), .ref (77), .ref (78), .ref (79), .ref (80), .ref (81), .ref (82), .ref (83), .ref (84), .int (nI dy), .ref (85), .ref (86), .ref (87), .ref (88), .ref (89), .ref (90)])) (m81 : C (81) = .inl (0, 10, .inl cn)) (m82 : C (82) = .inl (0, 40, .inl fm)) (m83 : C (83) = .inl (0, 40, .inl up)) (m84 : C (84) = .inl (0, 40, .inl dn)) (ha : a < 10) (hcn : cn a = nI kk) (hkk : kk ≤ 4) {fr u dw : Int32} (h : (0 ≤ fr ∧ fr ≤ 100) ∧ (1 ≤ dw ∧ dw ≤ 1000) ∧ (0 ≤ u ∧ u ≤ dw)) (hr : ¬ (pf_pl (fun i => fm (4 * a + i)) fr kk 0) < 4) : gj_G md_Mo_contract (d + 1) K N 0 0 0 [(0, .ref (70)), (1, .int (nI a)), (2, .int (fr)), (3, .int (u)), (4, .int (dw))] [] (n) C (fun r => r.1 = gj_iv 0 ∧ r.2.1 = n ∧ r.2.2 70 = .inr (5, [.int (2), .ref (71), .int (nI sg), .int (nI li), .ref (72), .int (nI nl), .ref (73), .int (nI ap), .int (nI ns), .ref (74), .ref (75), .ref (76), .ref (77), .ref (78), .ref (79), .ref (80), .ref (81), .ref (82), .ref (83), .ref (84), .int (nI dy), .ref (85), .ref (86), .ref (87), .ref (88), .ref (89), .ref (90)]) ∧ ∀ y, y ≠ 70 → r.2.2 y = C y) := by
  refine gj_aload_n d_Mo_contract_0 rfl ?_
  refine gj_iload_n d_Mo_contract_1 rfl ?_
  refine gj_kc (v := 0) d_Mo_contract_2 (by decide) ?_
  refine gj_kb (v := 9) d_Mo_contract_3 (by decide) ?_
  refine gj_callS (as := [.int (nI a), .int (0), .int (9)]) (rest := [.ref (70)]) (K1 := 0) (N1 := 0) d_Mo_contract_5 mo_Mo_not gw_687 gw_688 gw_25 pl_Mo_not (Nat.le_of_ble_eq_true rfl) (Nat.le_of_ble_eq_true rfl) (Nat.zero_le _) (Nat.zero_le _) (c_Mo_not (nI a) (0) (9)) (fun E n' C' _ h => by cases h) (fun v n' C' _ h => ?_)
  cases h
  refine gj_top (y := 0) (pm_nt0 (pm_of ha)) ?_
  refine gj_if_ne (tgt := 43) d_Mo_contract_8 (by decide) (fun h8 => absurd (by decide) h8) (fun h8 => ?_)
  refine gj_iload_n d_Mo_contract_11 rfl ?_
  refine gj_kc (v := 0) d_Mo_contract_12 (by decide) ?_
  refine gj_kb (v := 100) d_Mo_contract_13 (by decide) ?_
  refine gj_callS (as := [.int (fr), .int (0), .int (100)]) (rest := [.ref (70)]) (K1 := 0) (N1 := 0) d_Mo_contract_15 mo_Mo_not gw_687 gw_688 gw_25 pl_Mo_not (Nat.le_of_ble_eq_true rfl) (Nat.le_of_ble_eq_true rfl) (Nat.zero_le _) (Nat.zero_le _) (c_Mo_not (fr) (0) (100)) (fun E n' C' _ h => by cases h) (fun v n' C' _ h => ?_)
  cases h
  refine gj_top (y := 0) (pm_nt0 h.1) ?_
  refine gj_if_ne (tgt := 43) d_Mo_contract_18 (by decide) (fun h18 => absurd (by decide) h18) (fun h18 => ?_)
  refine gj_iload d_Mo_contract_21 rfl ?_
  refine gj_kc (v := 1) d_Mo_contract_23 (by decide) ?_
  refine gj_ks (v := 1000) d_Mo_contract_24 (by decide) ?_
  refine gj_callS (as := [.int (dw), .int (1), .int (1000)]) (rest := [.ref (70)]) (K1 := 0) (N1 := 0) d_Mo_contract_27 mo_Mo_not gw_687 gw_688 gw_25 pl_Mo_not (Nat.le_of_ble_eq_true rfl) (Nat.le_of_ble_eq_true rfl) (Nat.zero_le _) (Nat.zero_le _) (c_Mo_not (dw) (1) (1000)) (fun E n' C' _ h => by cases h) (fun v n' C' _ h => ?_)
  cases h
  refine gj_top (y := 0) (pm_nt0 h.2.1) ?_
  refine gj_if_ne (tgt := 43) d_Mo_contract_30 (by decide) (fun h30 => absurd (by decide) h30) (fun h30 => ?_)
  refine gj_iload_n d_Mo_contract_33 rfl ?_
  refine gj_kc (v := 0) d_Mo_contract_34 (by decide) ?_
  refine gj_iload d_Mo_contract_35 rfl ?_
  refine gj_callS (as := [.int (u), .int (0), .int (dw)]) (rest := [.ref (70)]) (K1 := 0) (N1 := 0) d_Mo_contract_37 mo_Mo_not gw_687 gw_688 gw_25 pl_Mo_not (Nat.le_of_ble_eq_true rfl) (Nat.le_of_ble_eq_true rfl) (Nat.zero_le _) (Nat.zero_le _) (c_Mo_not (u) (0) (dw)) (fun E n' C' _ h => by cases h) (fun v n' C' _ h => ?_)
  cases h
  refine gj_top (y := 0) (pm_nt0 h.2.2) ?_
  refine gj_if_eq (tgt := 47) d_Mo_contract_40 (by decide) (fun h40 => ?_) (fun h40 => absurd (by decide) h40)
  refine gj_kc (v := 0) d_Mo_contract_47 (by decide) ?_
  refine gj_put d_Mo_contract_48 gp_Mo_7 m70 (Nat.le_of_ble_eq_true rfl) (fun _ => rfl) (fun _ => rfl) ?_
  obtain ⟨C1, eC1⟩ : ∃ Z0, Z0 = va_up C (70) (.inr (5, [.int (0), .ref (71), .int (nI sg), .int (nI li), .ref (72), .int (nI nl), .ref (73), .int (nI ap), .int (nI ns), .ref (74), .ref (75), .ref (76), .ref (77), .ref (78), .ref (79), .ref (80), .ref (81), .ref (82), .ref (83), .ref (84), .int (nI dy), .ref (85), .ref (86), .ref (87), .ref (88), .ref (89), .ref (90)])) := ⟨_, rfl⟩
  refine gj_mem eC1 ?_
  have f2 : C1 (70) = .inr (5, [.int (0), .ref (71), .int (nI sg), .int (nI li), .ref (72), .int (nI nl), .ref (73), .int (nI ap), .int (nI ns), .ref (74), .ref (75), .ref (76), .ref (77), .ref (78), .ref (79), .ref (80), .ref (81), .ref (82), .ref (83), .ref (84), .int (nI dy), .ref (85), .ref (86), .ref (87), .ref (88), .ref (89), .ref (90)]) := by rw [eC1]; exact va_up_self _ _ _
  have f3 : C1 (81) = .inl (0, 10, .inl cn) := by rw [eC1, va_up_ne _ _ (by omega)]; exact m81
  have f4 : C1 (82) = .inl (0, 40, .inl fm) := by rw [eC1, va_up_ne _ _ (by omega)]; exact m82
  have f5 : C1 (83) = .inl (0, 40, .inl up) := by rw [eC1, va_up_ne _ _ (by omega)]; exact m83
  have f6 : C1 (84) = .inl (0, 40, .inl dn) := by rw [eC1, va_up_ne _ _ (by omega)]; exact m84
  refine gj_aload_n d_Mo_contract_51 rfl ?_
  refine gj_get d_Mo_contract_52 gf_Mo_7 f2 rfl ?_
  refine gj_if_eq (tgt := 60) d_Mo_contract_55 (by decide) (fun h55 => ?_) (fun h55 => absurd (by decide) h55)
  refine gj_kc (v := 4) d_Mo_contract_60 (by decide) ?_
  refine gj_iload_n d_Mo_contract_61 rfl ?_
  refine gj_imul d_Mo_contract_62 ?_
  refine gj_top (y := nI (4 * a)) (nI_mul (4) (a)) ?_
  refine gj_istore d_Mo_contract_63 (by decide) ?_
  refine gj_less (lc' := [(0, .ref (70)), (1, .int (nI a)), (2, .int (fr)), (3, .int (u)), (4, .int (dw)), (5, .int (nI (4 * a + 0)))]) ⟨rfl, rfl, rfl, rfl, rfl, rfl, trivial⟩ ?_
  have hpp := pf_pl_le (fun i => fm (4 * a + i)) fr kk 0
  refine c_Mo_contract_loop f2 f3 f4 f5 f6 ha hcn hkk kk 0 (by omega) ?_
  refine gj_aload_n d_Mo_contract_97 rfl ?_
  refine gj_iload d_Mo_contract_98 rfl ?_
  refine gj_kc (v := 4) d_Mo_contract_100 (by decide) ?_
  refine gj_iload_n d_Mo_contract_101 rfl ?_
  refine gj_imul d_Mo_contract_102 ?_
  refine gj_top (y := nI (4 * a)) (nI_mul (4) (a)) ?_
  refine gj_kc (v := 4) d_Mo_contract_103 (by decide) ?_
  refine gj_iadd d_Mo_contract_104 ?_
  refine gj_top (y := nI ((4 * a) + 4)) (nI_add (4 * a) (4)) ?_
  refine gj_icmp_ne (tgt := 112) d_Mo_contract_105 (by decide) (fun h105 => by have m105 : ¬ (4 * a + (pf_pl (fun i => fm (4 * a + i)) fr kk 0) = (4 * a) + 4) := fun q => h105 ((nI_eq (a := 4 * a + (pf_pl (fun i => fm (4 * a + i)) fr kk 0)) (b := (4 * a) + 4) (by omega) (by omega)).mpr q); exact absurd (show 4 * a + (pf_pl (fun i => fm (4 * a + i)) fr kk 0) = (4 * a) + 4 from by omega) m105) (fun h105 => ?_)
  have m105 : 4 * a + (pf_pl (fun i => fm (4 * a + i)) fr kk 0) = (4 * a) + 4 := (nI_eq (a := 4 * a + (pf_pl (fun i => fm (4 * a + i)) fr kk 0)) (b := (4 * a) + 4) (by omega) (by omega)).mp h105
  refine gj_kc (v := 2) d_Mo_contract_108 (by decide) ?_
  refine gj_goto (tgt := 113) d_Mo_contract_109 (by decide) ?_
  refine gj_put d_Mo_contract_113 gp_Mo_7 f2 (Nat.le_of_ble_eq_true rfl) (fun _ => rfl) (fun _ => rfl) ?_
  obtain ⟨C7, eC7⟩ : ∃ Z0, Z0 = va_up C1 (70) (.inr (5, [.int (2), .ref (71), .int (nI sg), .int (nI li), .ref (72), .int (nI nl), .ref (73), .int (nI ap), .int (nI ns), .ref (74), .ref (75), .ref (76), .ref (77), .ref (78), .ref (79), .ref (80), .ref (81), .ref (82), .ref (83), .ref (84), .int (nI dy), .ref (85), .ref (86), .ref (87), .ref (88), .ref (89), .ref (90)])) := ⟨_, rfl⟩
  refine gj_mem eC7 ?_
  have f8 : C7 (70) = .inr (5, [.int (2), .ref (71), .int (nI sg), .int (nI li), .ref (72), .int (nI nl), .ref (73), .int (nI ap), .int (nI ns), .ref (74), .ref (75), .ref (76), .ref (77), .ref (78), .ref (79), .ref (80), .ref (81), .ref (82), .ref (83), .ref (84), .int (nI dy), .ref (85), .ref (86), .ref (87), .ref (88), .ref (89), .ref (90)]) := by rw [eC7]; exact va_up_self _ _ _
  have f9 : C7 (81) = .inl (0, 10, .inl cn) := by rw [eC7, va_up_ne _ _ (by omega)]; exact f3
  have f10 : C7 (82) = .inl (0, 40, .inl fm) := by rw [eC7, va_up_ne _ _ (by omega)]; exact f4
  have f11 : C7 (83) = .inl (0, 40, .inl up) := by rw [eC7, va_up_ne _ _ (by omega)]; exact f5
  have f12 : C7 (84) = .inl (0, 40, .inl dn) := by rw [eC7, va_up_ne _ _ (by omega)]; exact f6
  refine gj_aload_n d_Mo_contract_116 rfl ?_
  refine gj_get d_Mo_contract_117 gf_Mo_7 f8 rfl ?_
  refine gj_if_eq (tgt := 125) d_Mo_contract_120 (by decide) (fun h120 => absurd h120 (by decide)) (fun h120 => ?_)
  refine gj_kc (v := 0) d_Mo_contract_123 (by decide) ?_
  refine gj_iret rfl (Nat.zero_le _) (Nat.zero_le _) d_Mo_contract_124 ?_
  exact ⟨rfl, rfl, f8, fun y c0 => by show C7 y = C y; rw [eC7, va_up_ne _ _ (by assumption), eC1, va_up_ne _ _ (by assumption)]⟩
set_option maxHeartbeats 2000000 in
theorem c_Mo_contract {d K N n sg li nl ap ns dy : Nat} {tc : Int32} {C : Nat → va_E} {cn fm up dn : Nat → Int32} {a kk : Nat} (m70 : C (70) = .inr (5, [.int (tc), .ref (71), .int (nI sg), .int (nI li), .ref (72), .int (nI nl), .ref (73), .int (nI ap), .int (nI ns), .ref (74), .ref (75), .ref (76), .ref (77), .ref (78), .ref (79), .ref (80), .ref (81), .ref (82), .ref (83), .ref (84), .int (nI dy), .ref (85), .ref (86), .ref (87), .ref (88), .ref (89), .ref (90)])) (m81 : C (81) = .inl (0, 10, .inl cn)) (m82 : C (82) = .inl (0, 40, .inl fm)) (m83 : C (83) = .inl (0, 40, .inl up)) (m84 : C (84) = .inl (0, 40, .inl dn)) (ha : a < 10) (hcn : cn a = nI kk) (hkk : kk ≤ 4) {fr u dw : Int32} (h : (0 ≤ fr ∧ fr ≤ 100) ∧ (1 ≤ dw ∧ dw ≤ 1000) ∧ (0 ≤ u ∧ u ≤ dw)) (hr : (pf_pl (fun i => fm (4 * a + i)) fr kk 0) < 4) : gj_G md_Mo_contract (d + 1) K N 0 0 0 [(0, .ref (70)), (1, .int (nI a)), (2, .int (fr)), (3, .int (u)), (4, .int (dw))] [] (n) C (fun r => r.1 = gj_iv (nI (max kk ((pf_pl (fun i => fm (4 * a + i)) fr kk 0) + 1))) ∧ r.2.1 = n ∧ r.2.2 70 = .inr (5, [.int (0), .ref (71), .int (nI sg), .int (nI li), .ref (72), .int (nI nl), .ref (73), .int (nI ap), .int (nI ns), .ref (74), .ref (75), .ref (76), .ref (77), .ref (78), .ref (79), .ref (80), .ref (81), .ref (82), .ref (83), .ref (84), .int (nI dy), .ref (85), .ref (86), .ref (87), .ref (88), .ref (89), .ref (90)]) ∧ (∃ cn2, r.2.2 81 = .inl (0, 10, .inl cn2) ∧ cn2 a = nI (max kk ((pf_pl (fun i => fm (4 * a + i)) fr kk 0) + 1)) ∧ ∀ i, i ≠ a → cn2 i = cn i) ∧ r.2.2 82 = .inl (0, 40, .inl (upd fm (4 * a + (pf_pl (fun i => fm (4 * a + i)) fr kk 0)) fr)) ∧ r.2.2 83 = .inl (0, 40, .inl (upd up (4 * a + (pf_pl (fun i => fm (4 * a + i)) fr kk 0)) u)) ∧ r.2.2 84 = .inl (0, 40, .inl (upd dn (4 * a + (pf_pl (fun i => fm (4 * a + i)) fr kk 0)) dw)) ∧ ∀ y, y ≠ 70 → y ≠ 81 → y ≠ 82 → y ≠ 83 → y ≠ 84 → r.2.2 y = C y) := by
  refine gj_aload_n d_Mo_contract_0 rfl ?_
  refine gj_iload_n d_Mo_contract_1 rfl ?_
  refine gj_kc (v := 0) d_Mo_contract_2 (by decide) ?_
  refine gj_kb (v := 9) d_Mo_contract_3 (by decide) ?_
  refine gj_callS (as := [.int (nI a), .int (0), .int (9)]) (rest := [.ref (70)]) (K1 := 0) (N1 := 0) d_Mo_contract_5 mo_Mo_not gw_687 gw_688 gw_25 pl_Mo_not (Nat.le_of_ble_eq_true rfl) (Nat.le_of_ble_eq_true rfl) (Nat.zero_le _) (Nat.zero_le _) (c_Mo_not (nI a) (0) (9)) (fun E n' C' _ h => by cases h) (fun v n' C' _ h => ?_)
  cases h
  refine gj_top (y := 0) (pm_nt0 (pm_of ha)) ?_
  refine gj_if_ne (tgt := 43) d_Mo_contract_8 (by decide) (fun h8 => absurd (by decide) h8) (fun h8 => ?_)
  refine gj_iload_n d_Mo_contract_11 rfl ?_
  refine gj_kc (v := 0) d_Mo_contract_12 (by decide) ?_
  refine gj_kb (v := 100) d_Mo_contract_13 (by decide) ?_
  refine gj_callS (as := [.int (fr), .int (0), .int (100)]) (rest := [.ref (70)]) (K1 := 0) (N1 := 0) d_Mo_contract_15 mo_Mo_not gw_687 gw_688 gw_25 pl_Mo_not (Nat.le_of_ble_eq_true rfl) (Nat.le_of_ble_eq_true rfl) (Nat.zero_le _) (Nat.zero_le _) (c_Mo_not (fr) (0) (100)) (fun E n' C' _ h => by cases h) (fun v n' C' _ h => ?_)
  cases h
  refine gj_top (y := 0) (pm_nt0 h.1) ?_
  refine gj_if_ne (tgt := 43) d_Mo_contract_18 (by decide) (fun h18 => absurd (by decide) h18) (fun h18 => ?_)
  refine gj_iload d_Mo_contract_21 rfl ?_
  refine gj_kc (v := 1) d_Mo_contract_23 (by decide) ?_
  refine gj_ks (v := 1000) d_Mo_contract_24 (by decide) ?_
  refine gj_callS (as := [.int (dw), .int (1), .int (1000)]) (rest := [.ref (70)]) (K1 := 0) (N1 := 0) d_Mo_contract_27 mo_Mo_not gw_687 gw_688 gw_25 pl_Mo_not (Nat.le_of_ble_eq_true rfl) (Nat.le_of_ble_eq_true rfl) (Nat.zero_le _) (Nat.zero_le _) (c_Mo_not (dw) (1) (1000)) (fun E n' C' _ h => by cases h) (fun v n' C' _ h => ?_)
  cases h
  refine gj_top (y := 0) (pm_nt0 h.2.1) ?_
  refine gj_if_ne (tgt := 43) d_Mo_contract_30 (by decide) (fun h30 => absurd (by decide) h30) (fun h30 => ?_)
  refine gj_iload_n d_Mo_contract_33 rfl ?_
  refine gj_kc (v := 0) d_Mo_contract_34 (by decide) ?_
  refine gj_iload d_Mo_contract_35 rfl ?_
  refine gj_callS (as := [.int (u), .int (0), .int (dw)]) (rest := [.ref (70)]) (K1 := 0) (N1 := 0) d_Mo_contract_37 mo_Mo_not gw_687 gw_688 gw_25 pl_Mo_not (Nat.le_of_ble_eq_true rfl) (Nat.le_of_ble_eq_true rfl) (Nat.zero_le _) (Nat.zero_le _) (c_Mo_not (u) (0) (dw)) (fun E n' C' _ h => by cases h) (fun v n' C' _ h => ?_)
  cases h
  refine gj_top (y := 0) (pm_nt0 h.2.2) ?_
  refine gj_if_eq (tgt := 47) d_Mo_contract_40 (by decide) (fun h40 => ?_) (fun h40 => absurd (by decide) h40)
  refine gj_kc (v := 0) d_Mo_contract_47 (by decide) ?_
  refine gj_put d_Mo_contract_48 gp_Mo_7 m70 (Nat.le_of_ble_eq_true rfl) (fun _ => rfl) (fun _ => rfl) ?_
  obtain ⟨C1, eC1⟩ : ∃ Z0, Z0 = va_up C (70) (.inr (5, [.int (0), .ref (71), .int (nI sg), .int (nI li), .ref (72), .int (nI nl), .ref (73), .int (nI ap), .int (nI ns), .ref (74), .ref (75), .ref (76), .ref (77), .ref (78), .ref (79), .ref (80), .ref (81), .ref (82), .ref (83), .ref (84), .int (nI dy), .ref (85), .ref (86), .ref (87), .ref (88), .ref (89), .ref (90)])) := ⟨_, rfl⟩
  refine gj_mem eC1 ?_
  have f2 : C1 (70) = .inr (5, [.int (0), .ref (71), .int (nI sg), .int (nI li), .ref (72), .int (nI nl), .ref (73), .int (nI ap), .int (nI ns), .ref (74), .ref (75), .ref (76), .ref (77), .ref (78), .ref (79), .ref (80), .ref (81), .ref (82), .ref (83), .ref (84), .int (nI dy), .ref (85), .ref (86), .ref (87), .ref (88), .ref (89), .ref (90)]) := by rw [eC1]; exact va_up_self _ _ _
  have f3 : C1 (81) = .inl (0, 10, .inl cn) := by rw [eC1, va_up_ne _ _ (by omega)]; exact m81
  have f4 : C1 (82) = .inl (0, 40, .inl fm) := by rw [eC1, va_up_ne _ _ (by omega)]; exact m82
  have f5 : C1 (83) = .inl (0, 40, .inl up) := by rw [eC1, va_up_ne _ _ (by omega)]; exact m83
  have f6 : C1 (84) = .inl (0, 40, .inl dn) := by rw [eC1, va_up_ne _ _ (by omega)]; exact m84
  refine gj_aload_n d_Mo_contract_51 rfl ?_
  refine gj_get d_Mo_contract_52 gf_Mo_7 f2 rfl ?_
  refine gj_if_eq (tgt := 60) d_Mo_contract_55 (by decide) (fun h55 => ?_) (fun h55 => absurd (by decide) h55)
  refine gj_kc (v := 4) d_Mo_contract_60 (by decide) ?_
  refine gj_iload_n d_Mo_contract_61 rfl ?_
  refine gj_imul d_Mo_contract_62 ?_
  refine gj_top (y := nI (4 * a)) (nI_mul (4) (a)) ?_
  refine gj_istore d_Mo_contract_63 (by decide) ?_
  refine gj_less (lc' := [(0, .ref (70)), (1, .int (nI a)), (2, .int (fr)), (3, .int (u)), (4, .int (dw)), (5, .int (nI (4 * a + 0)))]) ⟨rfl, rfl, rfl, rfl, rfl, rfl, trivial⟩ ?_
  have hpp := pf_pl_le (fun i => fm (4 * a + i)) fr kk 0
  refine c_Mo_contract_loop f2 f3 f4 f5 f6 ha hcn hkk kk 0 (by omega) ?_
  refine gj_aload_n d_Mo_contract_97 rfl ?_
  refine gj_iload d_Mo_contract_98 rfl ?_
  refine gj_kc (v := 4) d_Mo_contract_100 (by decide) ?_
  refine gj_iload_n d_Mo_contract_101 rfl ?_
  refine gj_imul d_Mo_contract_102 ?_
  refine gj_top (y := nI (4 * a)) (nI_mul (4) (a)) ?_
  refine gj_kc (v := 4) d_Mo_contract_103 (by decide) ?_
  refine gj_iadd d_Mo_contract_104 ?_
  refine gj_top (y := nI ((4 * a) + 4)) (nI_add (4 * a) (4)) ?_
  refine gj_icmp_ne (tgt := 112) d_Mo_contract_105 (by decide) (fun h105 => ?_) (fun h105 => by have m105 : 4 * a + (pf_pl (fun i => fm (4 * a + i)) fr kk 0) = (4 * a) + 4 := (nI_eq (a := 4 * a + (pf_pl (fun i => fm (4 * a + i)) fr kk 0)) (b := (4 * a) + 4) (by omega) (by omega)).mp h105; exact absurd m105 (show ¬ (4 * a + (pf_pl (fun i => fm (4 * a + i)) fr kk 0) = (4 * a) + 4) from by omega))
  have m105 : ¬ (4 * a + (pf_pl (fun i => fm (4 * a + i)) fr kk 0) = (4 * a) + 4) := fun q => h105 ((nI_eq (a := 4 * a + (pf_pl (fun i => fm (4 * a + i)) fr kk 0)) (b := (4 * a) + 4) (by omega) (by omega)).mpr q)
  refine gj_kc (v := 0) d_Mo_contract_112 (by decide) ?_
  refine gj_put d_Mo_contract_113 gp_Mo_7 f2 (Nat.le_of_ble_eq_true rfl) (fun _ => rfl) (fun _ => rfl) ?_
  obtain ⟨C7, eC7⟩ : ∃ Z0, Z0 = va_up C1 (70) (.inr (5, [.int (0), .ref (71), .int (nI sg), .int (nI li), .ref (72), .int (nI nl), .ref (73), .int (nI ap), .int (nI ns), .ref (74), .ref (75), .ref (76), .ref (77), .ref (78), .ref (79), .ref (80), .ref (81), .ref (82), .ref (83), .ref (84), .int (nI dy), .ref (85), .ref (86), .ref (87), .ref (88), .ref (89), .ref (90)])) := ⟨_, rfl⟩
  refine gj_mem eC7 ?_
  have f8 : C7 (70) = .inr (5, [.int (0), .ref (71), .int (nI sg), .int (nI li), .ref (72), .int (nI nl), .ref (73), .int (nI ap), .int (nI ns), .ref (74), .ref (75), .ref (76), .ref (77), .ref (78), .ref (79), .ref (80), .ref (81), .ref (82), .ref (83), .ref (84), .int (nI dy), .ref (85), .ref (86), .ref (87), .ref (88), .ref (89), .ref (90)]) := by rw [eC7]; exact va_up_self _ _ _
  have f9 : C7 (81) = .inl (0, 10, .inl cn) := by rw [eC7, va_up_ne _ _ (by omega)]; exact f3
  have f10 : C7 (82) = .inl (0, 40, .inl fm) := by rw [eC7, va_up_ne _ _ (by omega)]; exact f4
  have f11 : C7 (83) = .inl (0, 40, .inl up) := by rw [eC7, va_up_ne _ _ (by omega)]; exact f5
  have f12 : C7 (84) = .inl (0, 40, .inl dn) := by rw [eC7, va_up_ne _ _ (by omega)]; exact f6
  refine gj_aload_n d_Mo_contract_116 rfl ?_
  refine gj_get d_Mo_contract_117 gf_Mo_7 f8 rfl ?_
  refine gj_if_eq (tgt := 125) d_Mo_contract_120 (by decide) (fun h120 => ?_) (fun h120 => absurd (by decide) h120)
  refine gj_iload d_Mo_contract_125 rfl ?_
  refine gj_kc (v := 4) d_Mo_contract_127 (by decide) ?_
  refine gj_iload_n d_Mo_contract_128 rfl ?_
  refine gj_imul d_Mo_contract_129 ?_
  refine gj_top (y := nI (4 * a)) (nI_mul (4) (a)) ?_
  refine gj_aload_n d_Mo_contract_130 rfl ?_
  refine gj_get d_Mo_contract_131 gf_Mo_60 f8 rfl ?_
  refine gj_iload_n d_Mo_contract_134 rfl ?_
  refine gj_iald d_Mo_contract_135 f9 rfl (vp_in_nI (by omega) (by decide)) ?_
  refine gj_top (y := cn (a)) (congrArg cn (nI_clamp (by omega))) ?_
  refine gj_top hcn ?_
  refine gj_iadd d_Mo_contract_136 ?_
  refine gj_top (y := nI ((4 * a) + kk)) (nI_add (4 * a) (kk)) ?_
  refine gj_icmp_ne (tgt := 154) d_Mo_contract_137 (by decide) (fun h137 => ?_) (fun h137 => ?_)
  · have m137 : ¬ (4 * a + (pf_pl (fun i => fm (4 * a + i)) fr kk 0) = (4 * a) + kk) := fun q => h137 ((nI_eq (a := 4 * a + (pf_pl (fun i => fm (4 * a + i)) fr kk 0)) (b := (4 * a) + kk) (by omega) (by omega)).mpr q)
    refine gj_aload_n d_Mo_contract_154 rfl ?_
    refine gj_get d_Mo_contract_155 gf_Mo_63 f8 rfl ?_
    refine gj_iload d_Mo_contract_158 rfl ?_
    refine gj_iload_n d_Mo_contract_160 rfl ?_
    refine gj_iast d_Mo_contract_161 f10 rfl (vp_in_nI (by omega) (by decide)) ?_
    obtain ⟨C13, eC13⟩ : ∃ Z0, Z0 = va_up C7 (82) (.inl (0, 40, .inl (upd fm (4 * a + (pf_pl (fun i => fm (4 * a + i)) fr kk 0)) (fr)))) := ⟨_, rfl⟩
    refine gj_mem (eC13.trans (by rw [nI_clamp (by omega)])) ?_
    have f14 : C13 (70) = .inr (5, [.int (0), .ref (71), .int (nI sg), .int (nI li), .ref (72), .int (nI nl), .ref (73), .int (nI ap), .int (nI ns), .ref (74), .ref (75), .ref (76), .ref (77), .ref (78), .ref (79), .ref (80), .ref (81), .ref (82), .ref (83), .ref (84), .int (nI dy), .ref (85), .ref (86), .ref (87), .ref (88), .ref (89), .ref (90)]) := by rw [eC13, va_up_ne _ _ (by omega)]; exact f8
    have f15 : C13 (81) = .inl (0, 10, .inl cn) := by rw [eC13, va_up_ne _ _ (by omega)]; exact f9
    have f16 : C13 (82) = .inl (0, 40, .inl (upd fm (4 * a + (pf_pl (fun i => fm (4 * a + i)) fr kk 0)) (fr))) := by rw [eC13]; exact va_up_self _ _ _
    have f17 : C13 (83) = .inl (0, 40, .inl up) := by rw [eC13, va_up_ne _ _ (by omega)]; exact f11
    have f18 : C13 (84) = .inl (0, 40, .inl dn) := by rw [eC13, va_up_ne _ _ (by omega)]; exact f12
    refine gj_aload_n d_Mo_contract_162 rfl ?_
    refine gj_get d_Mo_contract_163 gf_Mo_66 f14 rfl ?_
    refine gj_iload d_Mo_contract_166 rfl ?_
    refine gj_iload_n d_Mo_contract_168 rfl ?_
    refine gj_iast d_Mo_contract_169 f17 rfl (vp_in_nI (by omega) (by decide)) ?_
    obtain ⟨C19, eC19⟩ : ∃ Z0, Z0 = va_up C13 (83) (.inl (0, 40, .inl (upd up (4 * a + (pf_pl (fun i => fm (4 * a + i)) fr kk 0)) (u)))) := ⟨_, rfl⟩
    refine gj_mem (eC19.trans (by rw [nI_clamp (by omega)])) ?_
    have f20 : C19 (70) = .inr (5, [.int (0), .ref (71), .int (nI sg), .int (nI li), .ref (72), .int (nI nl), .ref (73), .int (nI ap), .int (nI ns), .ref (74), .ref (75), .ref (76), .ref (77), .ref (78), .ref (79), .ref (80), .ref (81), .ref (82), .ref (83), .ref (84), .int (nI dy), .ref (85), .ref (86), .ref (87), .ref (88), .ref (89), .ref (90)]) := by rw [eC19, va_up_ne _ _ (by omega)]; exact f14
    have f21 : C19 (81) = .inl (0, 10, .inl cn) := by rw [eC19, va_up_ne _ _ (by omega)]; exact f15
    have f22 : C19 (82) = .inl (0, 40, .inl (upd fm (4 * a + (pf_pl (fun i => fm (4 * a + i)) fr kk 0)) (fr))) := by rw [eC19, va_up_ne _ _ (by omega)]; exact f16
    have f23 : C19 (83) = .inl (0, 40, .inl (upd up (4 * a + (pf_pl (fun i => fm (4 * a + i)) fr kk 0)) (u))) := by rw [eC19]; exact va_up_self _ _ _
    have f24 : C19 (84) = .inl (0, 40, .inl dn) := by rw [eC19, va_up_ne _ _ (by omega)]; exact f18
    refine gj_aload_n d_Mo_contract_170 rfl ?_
    refine gj_get d_Mo_contract_171 gf_Mo_69 f20 rfl ?_
    refine gj_iload d_Mo_contract_174 rfl ?_
    refine gj_iload d_Mo_contract_176 rfl ?_
    refine gj_iast d_Mo_contract_178 f24 rfl (vp_in_nI (by omega) (by decide)) ?_
    obtain ⟨C25, eC25⟩ : ∃ Z0, Z0 = va_up C19 (84) (.inl (0, 40, .inl (upd dn (4 * a + (pf_pl (fun i => fm (4 * a + i)) fr kk 0)) (dw)))) := ⟨_, rfl⟩
    refine gj_mem (eC25.trans (by rw [nI_clamp (by omega)])) ?_
    have f26 : C25 (70) = .inr (5, [.int (0), .ref (71), .int (nI sg), .int (nI li), .ref (72), .int (nI nl), .ref (73), .int (nI ap), .int (nI ns), .ref (74), .ref (75), .ref (76), .ref (77), .ref (78), .ref (79), .ref (80), .ref (81), .ref (82), .ref (83), .ref (84), .int (nI dy), .ref (85), .ref (86), .ref (87), .ref (88), .ref (89), .ref (90)]) := by rw [eC25, va_up_ne _ _ (by omega)]; exact f20
    have f27 : C25 (81) = .inl (0, 10, .inl cn) := by rw [eC25, va_up_ne _ _ (by omega)]; exact f21
    have f28 : C25 (82) = .inl (0, 40, .inl (upd fm (4 * a + (pf_pl (fun i => fm (4 * a + i)) fr kk 0)) (fr))) := by rw [eC25, va_up_ne _ _ (by omega)]; exact f22
    have f29 : C25 (83) = .inl (0, 40, .inl (upd up (4 * a + (pf_pl (fun i => fm (4 * a + i)) fr kk 0)) (u))) := by rw [eC25, va_up_ne _ _ (by omega)]; exact f23
    have f30 : C25 (84) = .inl (0, 40, .inl (upd dn (4 * a + (pf_pl (fun i => fm (4 * a + i)) fr kk 0)) (dw))) := by rw [eC25]; exact va_up_self _ _ _
    refine gj_aload_n d_Mo_contract_179 rfl ?_
    refine gj_get d_Mo_contract_180 gf_Mo_60 f26 rfl ?_
    refine gj_iload_n d_Mo_contract_183 rfl ?_
    refine gj_iald d_Mo_contract_184 f27 rfl (vp_in_nI (by omega) (by decide)) ?_
    refine gj_top (y := cn (a)) (congrArg cn (nI_clamp (by omega))) ?_
    refine gj_top hcn ?_
    refine gj_iret rfl (Nat.zero_le _) (Nat.zero_le _) d_Mo_contract_185 ?_
    exact ⟨congrArg (fun z => gj_iv (nI z)) (show kk = max kk ((pf_pl (fun i => fm (4 * a + i)) fr kk 0) + 1) by omega), rfl, f26, ⟨_, f27, hcn.trans (congrArg nI (by omega)), fun i hi => rfl⟩, f28, f29, f30, fun y c0 c1 c2 c3 c4 => by show C25 y = C y; rw [eC25, va_up_ne _ _ (by assumption), eC19, va_up_ne _ _ (by assumption), eC13, va_up_ne _ _ (by assumption), eC7, va_up_ne _ _ (by assumption), eC1, va_up_ne _ _ (by assumption)]⟩
  · have m137 : 4 * a + (pf_pl (fun i => fm (4 * a + i)) fr kk 0) = (4 * a) + kk := (nI_eq (a := 4 * a + (pf_pl (fun i => fm (4 * a + i)) fr kk 0)) (b := (4 * a) + kk) (by omega) (by omega)).mp h137
    refine gj_aload_n d_Mo_contract_140 rfl ?_
    refine gj_get d_Mo_contract_141 gf_Mo_60 f8 rfl ?_
    refine gj_iload_n d_Mo_contract_144 rfl ?_
    refine gj_aload_n d_Mo_contract_145 rfl ?_
    refine gj_get d_Mo_contract_146 gf_Mo_60 f8 rfl ?_
    refine gj_iload_n d_Mo_contract_149 rfl ?_
    refine gj_iald d_Mo_contract_150 f9 rfl (vp_in_nI (by omega) (by decide)) ?_
    refine gj_top (y := cn (a)) (congrArg cn (nI_clamp (by omega))) ?_
    refine gj_top hcn ?_
    refine gj_kc (v := 1) d_Mo_contract_151 (by decide) ?_
    refine gj_iadd d_Mo_contract_152 ?_
    refine gj_top (y := nI (kk + 1)) (nI_add (kk) (1)) ?_
    refine gj_iast d_Mo_contract_153 f9 rfl (vp_in_nI (by omega) (by decide)) ?_
    obtain ⟨C31, eC31⟩ : ∃ Z0, Z0 = va_up C7 (81) (.inl (0, 10, .inl (upd cn (a) (nI (kk + 1))))) := ⟨_, rfl⟩
    refine gj_mem (eC31.trans (by rw [nI_clamp (by omega)])) ?_
    have f32 : C31 (70) = .inr (5, [.int (0), .ref (71), .int (nI sg), .int (nI li), .ref (72), .int (nI nl), .ref (73), .int (nI ap), .int (nI ns), .ref (74), .ref (75), .ref (76), .ref (77), .ref (78), .ref (79), .ref (80), .ref (81), .ref (82), .ref (83), .ref (84), .int (nI dy), .ref (85), .ref (86), .ref (87), .ref (88), .ref (89), .ref (90)]) := by rw [eC31, va_up_ne _ _ (by omega)]; exact f8
    have f33 : C31 (81) = .inl (0, 10, .inl (upd cn (a) (nI (kk + 1)))) := by rw [eC31]; exact va_up_self _ _ _
    have f34 : C31 (82) = .inl (0, 40, .inl fm) := by rw [eC31, va_up_ne _ _ (by omega)]; exact f10
    have f35 : C31 (83) = .inl (0, 40, .inl up) := by rw [eC31, va_up_ne _ _ (by omega)]; exact f11
    have f36 : C31 (84) = .inl (0, 40, .inl dn) := by rw [eC31, va_up_ne _ _ (by omega)]; exact f12
    refine gj_aload_n d_Mo_contract_154 rfl ?_
    refine gj_get d_Mo_contract_155 gf_Mo_63 f32 rfl ?_
    refine gj_iload d_Mo_contract_158 rfl ?_
    refine gj_iload_n d_Mo_contract_160 rfl ?_
    refine gj_iast d_Mo_contract_161 f34 rfl (vp_in_nI (by omega) (by decide)) ?_
    obtain ⟨C37, eC37⟩ : ∃ Z0, Z0 = va_up C31 (82) (.inl (0, 40, .inl (upd fm (4 * a + (pf_pl (fun i => fm (4 * a + i)) fr kk 0)) (fr)))) := ⟨_, rfl⟩
    refine gj_mem (eC37.trans (by rw [nI_clamp (by omega)])) ?_
    have f38 : C37 (70) = .inr (5, [.int (0), .ref (71), .int (nI sg), .int (nI li), .ref (72), .int (nI nl), .ref (73), .int (nI ap), .int (nI ns), .ref (74), .ref (75), .ref (76), .ref (77), .ref (78), .ref (79), .ref (80), .ref (81), .ref (82), .ref (83), .ref (84), .int (nI dy), .ref (85), .ref (86), .ref (87), .ref (88), .ref (89), .ref (90)]) := by rw [eC37, va_up_ne _ _ (by omega)]; exact f32
    have f39 : C37 (81) = .inl (0, 10, .inl (upd cn (a) (nI (kk + 1)))) := by rw [eC37, va_up_ne _ _ (by omega)]; exact f33
    have f40 : C37 (82) = .inl (0, 40, .inl (upd fm (4 * a + (pf_pl (fun i => fm (4 * a + i)) fr kk 0)) (fr))) := by rw [eC37]; exact va_up_self _ _ _
    have f41 : C37 (83) = .inl (0, 40, .inl up) := by rw [eC37, va_up_ne _ _ (by omega)]; exact f35
    have f42 : C37 (84) = .inl (0, 40, .inl dn) := by rw [eC37, va_up_ne _ _ (by omega)]; exact f36
    refine gj_aload_n d_Mo_contract_162 rfl ?_
    refine gj_get d_Mo_contract_163 gf_Mo_66 f38 rfl ?_
    refine gj_iload d_Mo_contract_166 rfl ?_
    refine gj_iload_n d_Mo_contract_168 rfl ?_
    refine gj_iast d_Mo_contract_169 f41 rfl (vp_in_nI (by omega) (by decide)) ?_
    obtain ⟨C43, eC43⟩ : ∃ Z0, Z0 = va_up C37 (83) (.inl (0, 40, .inl (upd up (4 * a + (pf_pl (fun i => fm (4 * a + i)) fr kk 0)) (u)))) := ⟨_, rfl⟩
    refine gj_mem (eC43.trans (by rw [nI_clamp (by omega)])) ?_
    have f44 : C43 (70) = .inr (5, [.int (0), .ref (71), .int (nI sg), .int (nI li), .ref (72), .int (nI nl), .ref (73), .int (nI ap), .int (nI ns), .ref (74), .ref (75), .ref (76), .ref (77), .ref (78), .ref (79), .ref (80), .ref (81), .ref (82), .ref (83), .ref (84), .int (nI dy), .ref (85), .ref (86), .ref (87), .ref (88), .ref (89), .ref (90)]) := by rw [eC43, va_up_ne _ _ (by omega)]; exact f38
    have f45 : C43 (81) = .inl (0, 10, .inl (upd cn (a) (nI (kk + 1)))) := by rw [eC43, va_up_ne _ _ (by omega)]; exact f39
    have f46 : C43 (82) = .inl (0, 40, .inl (upd fm (4 * a + (pf_pl (fun i => fm (4 * a + i)) fr kk 0)) (fr))) := by rw [eC43, va_up_ne _ _ (by omega)]; exact f40
    have f47 : C43 (83) = .inl (0, 40, .inl (upd up (4 * a + (pf_pl (fun i => fm (4 * a + i)) fr kk 0)) (u))) := by rw [eC43]; exact va_up_self _ _ _
    have f48 : C43 (84) = .inl (0, 40, .inl dn) := by rw [eC43, va_up_ne _ _ (by omega)]; exact f42
    refine gj_aload_n d_Mo_contract_170 rfl ?_
    refine gj_get d_Mo_contract_171 gf_Mo_69 f44 rfl ?_
    refine gj_iload d_Mo_contract_174 rfl ?_
    refine gj_iload d_Mo_contract_176 rfl ?_
    refine gj_iast d_Mo_contract_178 f48 rfl (vp_in_nI (by omega) (by decide)) ?_
    obtain ⟨C49, eC49⟩ : ∃ Z0, Z0 = va_up C43 (84) (.inl (0, 40, .inl (upd dn (4 * a + (pf_pl (fun i => fm (4 * a + i)) fr kk 0)) (dw)))) := ⟨_, rfl⟩
    refine gj_mem (eC49.trans (by rw [nI_clamp (by omega)])) ?_
    have f50 : C49 (70) = .inr (5, [.int (0), .ref (71), .int (nI sg), .int (nI li), .ref (72), .int (nI nl), .ref (73), .int (nI ap), .int (nI ns), .ref (74), .ref (75), .ref (76), .ref (77), .ref (78), .ref (79), .ref (80), .ref (81), .ref (82), .ref (83), .ref (84), .int (nI dy), .ref (85), .ref (86), .ref (87), .ref (88), .ref (89), .ref (90)]) := by rw [eC49, va_up_ne _ _ (by omega)]; exact f44
    have f51 : C49 (81) = .inl (0, 10, .inl (upd cn (a) (nI (kk + 1)))) := by rw [eC49, va_up_ne _ _ (by omega)]; exact f45
    have f52 : C49 (82) = .inl (0, 40, .inl (upd fm (4 * a + (pf_pl (fun i => fm (4 * a + i)) fr kk 0)) (fr))) := by rw [eC49, va_up_ne _ _ (by omega)]; exact f46
    have f53 : C49 (83) = .inl (0, 40, .inl (upd up (4 * a + (pf_pl (fun i => fm (4 * a + i)) fr kk 0)) (u))) := by rw [eC49, va_up_ne _ _ (by omega)]; exact f47
    have f54 : C49 (84) = .inl (0, 40, .inl (upd dn (4 * a + (pf_pl (fun i => fm (4 * a + i)) fr kk 0)) (dw))) := by rw [eC49]; exact va_up_self _ _ _
    refine gj_aload_n d_Mo_contract_179 rfl ?_
    refine gj_get d_Mo_contract_180 gf_Mo_60 f50 rfl ?_
    refine gj_iload_n d_Mo_contract_183 rfl ?_
    refine gj_iald d_Mo_contract_184 f51 rfl (vp_in_nI (by omega) (by decide)) ?_
    refine gj_top (y := (upd cn (a) (nI (kk + 1))) (a)) (congrArg (upd cn (a) (nI (kk + 1))) (nI_clamp (by omega))) ?_
    refine gj_top (upd_self _ _ _) ?_
    refine gj_iret rfl (Nat.zero_le _) (Nat.zero_le _) d_Mo_contract_185 ?_
    exact ⟨congrArg (fun z => gj_iv (nI z)) (show kk + 1 = max kk ((pf_pl (fun i => fm (4 * a + i)) fr kk 0) + 1) by omega), rfl, f50, ⟨_, f51, (upd_self _ _ _).trans (congrArg nI (by omega)), fun i hi => upd_ne _ _ hi⟩, f52, f53, f54, fun y c0 c1 c2 c3 c4 => by show C49 y = C y; rw [eC49, va_up_ne _ _ (by assumption), eC43, va_up_ne _ _ (by assumption), eC37, va_up_ne _ _ (by assumption), eC31, va_up_ne _ _ (by assumption), eC7, va_up_ne _ _ (by assumption), eC1, va_up_ne _ _ (by assumption)]⟩
set_option maxHeartbeats 2000000 in
theorem c_Mo_currency_x1 {d K N n sg li nl ap ns dy : Nat} {tc : Int32} {C : Nat → va_E} (m70 : C (70) = .inr (5, [.int (tc), .ref (71), .int (nI sg), .int (nI li), .ref (72), .int (nI nl), .ref (73), .int (nI ap), .int (nI ns), .ref (74), .ref (75), .ref (76), .ref (77), .ref (78), .ref (79), .ref (80), .ref (81), .ref (82), .ref (83), .ref (84), .int (nI dy), .ref (85), .ref (86), .ref (87), .ref (88), .ref (89), .ref (90)])) {wn u dw : Int32} (h : ¬ ((0 ≤ wn ∧ wn ≤ 10000) ∧ (1 ≤ u ∧ u ≤ 100000) ∧ (1 ≤ dw ∧ dw ≤ 100000))) : gj_G md_Mo_currency (d + 1) K N 0 0 0 [(0, .ref (70)), (1, .int (wn)), (2, .int (u)), (3, .int (dw))] [] (n) C (fun r => r.1 = gj_iv 0 ∧ r.2.1 = n ∧ r.2.2 70 = .inr (5, [.int (1), .ref (71), .int (nI sg), .int (nI li), .ref (72), .int (nI nl), .ref (73), .int (nI ap), .int (nI ns), .ref (74), .ref (75), .ref (76), .ref (77), .ref (78), .ref (79), .ref (80), .ref (81), .ref (82), .ref (83), .ref (84), .int (nI dy), .ref (85), .ref (86), .ref (87), .ref (88), .ref (89), .ref (90)]) ∧ ∀ y, y ≠ 70 → r.2.2 y = C y) := by
  refine gj_aload_n d_Mo_currency_0 rfl ?_
  refine gj_iload_n d_Mo_currency_1 rfl ?_
  refine gj_kc (v := 0) d_Mo_currency_2 (by decide) ?_
  refine gj_ks (v := 10000) d_Mo_currency_3 (by decide) ?_
  by_cases a6 : 0 ≤ wn ∧ wn ≤ 10000
  · refine gj_callS (as := [.int (wn), .int (0), .int (10000)]) (rest := [.ref (70)]) (K1 := 0) (N1 := 0) d_Mo_currency_6 mo_Mo_not gw_687 gw_688 gw_25 pl_Mo_not (Nat.le_of_ble_eq_true rfl) (Nat.le_of_ble_eq_true rfl) (Nat.zero_le _) (Nat.zero_le _) (c_Mo_not (wn) (0) (10000)) (fun E n' C' _ h => by cases h) (fun v n' C' _ h => ?_)
    cases h
    refine gj_top (y := 0) (pm_nt0 a6) ?_
    refine gj_if_ne (tgt := 32) d_Mo_currency_9 (by decide) (fun h9 => absurd (by decide) h9) (fun h9 => ?_)
    refine gj_iload_n d_Mo_currency_12 rfl ?_
    refine gj_kc (v := 1) d_Mo_currency_13 (by decide) ?_
    refine gj_ldc d_Mo_currency_14 gw_706 ?_
    by_cases a16 : 1 ≤ u ∧ u ≤ 100000
    · refine gj_callS (as := [.int (u), .int (1), .int (100000)]) (rest := [.ref (70)]) (K1 := 0) (N1 := 0) d_Mo_currency_16 mo_Mo_not gw_687 gw_688 gw_25 pl_Mo_not (Nat.le_of_ble_eq_true rfl) (Nat.le_of_ble_eq_true rfl) (Nat.zero_le _) (Nat.zero_le _) (c_Mo_not (u) (1) (100000)) (fun E n' C' _ h => by cases h) (fun v n' C' _ h => ?_)
      cases h
      refine gj_top (y := 0) (pm_nt0 a16) ?_
      refine gj_if_ne (tgt := 32) d_Mo_currency_19 (by decide) (fun h19 => absurd (by decide) h19) (fun h19 => ?_)
      refine gj_iload_n d_Mo_currency_22 rfl ?_
      refine gj_kc (v := 1) d_Mo_currency_23 (by decide) ?_
      refine gj_ldc d_Mo_currency_24 gw_706 ?_
      by_cases a26 : 1 ≤ dw ∧ dw ≤ 100000
      · refine gj_callS (as := [.int (dw), .int (1), .int (100000)]) (rest := [.ref (70)]) (K1 := 0) (N1 := 0) d_Mo_currency_26 mo_Mo_not gw_687 gw_688 gw_25 pl_Mo_not (Nat.le_of_ble_eq_true rfl) (Nat.le_of_ble_eq_true rfl) (Nat.zero_le _) (Nat.zero_le _) (c_Mo_not (dw) (1) (100000)) (fun E n' C' _ h => by cases h) (fun v n' C' _ h => ?_)
        cases h
        refine gj_top (y := 0) (pm_nt0 a26) ?_
        refine gj_if_eq (tgt := 36) d_Mo_currency_29 (by decide) (fun h29 => ?_) (fun h29 => absurd (by decide) h29)
        exact absurd ⟨a6, a16, a26⟩ h
      · refine gj_callS (as := [.int (dw), .int (1), .int (100000)]) (rest := [.ref (70)]) (K1 := 0) (N1 := 0) d_Mo_currency_26 mo_Mo_not gw_687 gw_688 gw_25 pl_Mo_not (Nat.le_of_ble_eq_true rfl) (Nat.le_of_ble_eq_true rfl) (Nat.zero_le _) (Nat.zero_le _) (c_Mo_not (dw) (1) (100000)) (fun E n' C' _ h => by cases h) (fun v n' C' _ h => ?_)
        cases h
        refine gj_top (y := 1) (pm_nt1 a26) ?_
        refine gj_if_eq (tgt := 36) d_Mo_currency_29 (by decide) (fun h29 => absurd h29 (by decide)) (fun h29 => ?_)
        refine gj_kc (v := 1) d_Mo_currency_32 (by decide) ?_
        refine gj_goto (tgt := 37) d_Mo_currency_33 (by decide) ?_
        refine gj_put d_Mo_currency_37 gp_Mo_7 m70 (Nat.le_of_ble_eq_true rfl) (fun _ => rfl) (fun _ => rfl) ?_
        obtain ⟨C1, eC1⟩ : ∃ Z0, Z0 = va_up C (70) (.inr (5, [.int (1), .ref (71), .int (nI sg), .int (nI li), .ref (72), .int (nI nl), .ref (73), .int (nI ap), .int (nI ns), .ref (74), .ref (75), .ref (76), .ref (77), .ref (78), .ref (79), .ref (80), .ref (81), .ref (82), .ref (83), .ref (84), .int (nI dy), .ref (85), .ref (86), .ref (87), .ref (88), .ref (89), .ref (90)])) := ⟨_, rfl⟩
        refine gj_mem eC1 ?_
        have f2 : C1 (70) = .inr (5, [.int (1), .ref (71), .int (nI sg), .int (nI li), .ref (72), .int (nI nl), .ref (73), .int (nI ap), .int (nI ns), .ref (74), .ref (75), .ref (76), .ref (77), .ref (78), .ref (79), .ref (80), .ref (81), .ref (82), .ref (83), .ref (84), .int (nI dy), .ref (85), .ref (86), .ref (87), .ref (88), .ref (89), .ref (90)]) := by rw [eC1]; exact va_up_self _ _ _
        refine gj_aload_n d_Mo_currency_40 rfl ?_
        refine gj_get d_Mo_currency_41 gf_Mo_7 f2 rfl ?_
        refine gj_if_eq (tgt := 49) d_Mo_currency_44 (by decide) (fun h44 => absurd h44 (by decide)) (fun h44 => ?_)
        refine gj_kc (v := 0) d_Mo_currency_47 (by decide) ?_
        refine gj_iret rfl (Nat.zero_le _) (Nat.zero_le _) d_Mo_currency_48 ?_
        exact ⟨rfl, rfl, f2, fun y c0 => by show C1 y = C y; rw [eC1, va_up_ne _ _ (by assumption)]⟩
    · refine gj_callS (as := [.int (u), .int (1), .int (100000)]) (rest := [.ref (70)]) (K1 := 0) (N1 := 0) d_Mo_currency_16 mo_Mo_not gw_687 gw_688 gw_25 pl_Mo_not (Nat.le_of_ble_eq_true rfl) (Nat.le_of_ble_eq_true rfl) (Nat.zero_le _) (Nat.zero_le _) (c_Mo_not (u) (1) (100000)) (fun E n' C' _ h => by cases h) (fun v n' C' _ h => ?_)
      cases h
      refine gj_top (y := 1) (pm_nt1 a16) ?_
      refine gj_if_ne (tgt := 32) d_Mo_currency_19 (by decide) (fun h19 => ?_) (fun h19 => absurd h19 (by decide))
      refine gj_kc (v := 1) d_Mo_currency_32 (by decide) ?_
      refine gj_goto (tgt := 37) d_Mo_currency_33 (by decide) ?_
      refine gj_put d_Mo_currency_37 gp_Mo_7 m70 (Nat.le_of_ble_eq_true rfl) (fun _ => rfl) (fun _ => rfl) ?_
      obtain ⟨C3, eC3⟩ : ∃ Z0, Z0 = va_up C (70) (.inr (5, [.int (1), .ref (71), .int (nI sg), .int (nI li), .ref (72), .int (nI nl), .ref (73), .int (nI ap), .int (nI ns), .ref (74), .ref (75), .ref (76), .ref (77), .ref (78), .ref (79), .ref (80), .ref (81), .ref (82), .ref (83), .ref (84), .int (nI dy), .ref (85), .ref (86), .ref (87), .ref (88), .ref (89), .ref (90)])) := ⟨_, rfl⟩
      refine gj_mem eC3 ?_
      have f4 : C3 (70) = .inr (5, [.int (1), .ref (71), .int (nI sg), .int (nI li), .ref (72), .int (nI nl), .ref (73), .int (nI ap), .int (nI ns), .ref (74), .ref (75), .ref (76), .ref (77), .ref (78), .ref (79), .ref (80), .ref (81), .ref (82), .ref (83), .ref (84), .int (nI dy), .ref (85), .ref (86), .ref (87), .ref (88), .ref (89), .ref (90)]) := by rw [eC3]; exact va_up_self _ _ _
      refine gj_aload_n d_Mo_currency_40 rfl ?_
      refine gj_get d_Mo_currency_41 gf_Mo_7 f4 rfl ?_
      refine gj_if_eq (tgt := 49) d_Mo_currency_44 (by decide) (fun h44 => absurd h44 (by decide)) (fun h44 => ?_)
      refine gj_kc (v := 0) d_Mo_currency_47 (by decide) ?_
      refine gj_iret rfl (Nat.zero_le _) (Nat.zero_le _) d_Mo_currency_48 ?_
      exact ⟨rfl, rfl, f4, fun y c0 => by show C3 y = C y; rw [eC3, va_up_ne _ _ (by assumption)]⟩
  · refine gj_callS (as := [.int (wn), .int (0), .int (10000)]) (rest := [.ref (70)]) (K1 := 0) (N1 := 0) d_Mo_currency_6 mo_Mo_not gw_687 gw_688 gw_25 pl_Mo_not (Nat.le_of_ble_eq_true rfl) (Nat.le_of_ble_eq_true rfl) (Nat.zero_le _) (Nat.zero_le _) (c_Mo_not (wn) (0) (10000)) (fun E n' C' _ h => by cases h) (fun v n' C' _ h => ?_)
    cases h
    refine gj_top (y := 1) (pm_nt1 a6) ?_
    refine gj_if_ne (tgt := 32) d_Mo_currency_9 (by decide) (fun h9 => ?_) (fun h9 => absurd h9 (by decide))
    refine gj_kc (v := 1) d_Mo_currency_32 (by decide) ?_
    refine gj_goto (tgt := 37) d_Mo_currency_33 (by decide) ?_
    refine gj_put d_Mo_currency_37 gp_Mo_7 m70 (Nat.le_of_ble_eq_true rfl) (fun _ => rfl) (fun _ => rfl) ?_
    obtain ⟨C5, eC5⟩ : ∃ Z0, Z0 = va_up C (70) (.inr (5, [.int (1), .ref (71), .int (nI sg), .int (nI li), .ref (72), .int (nI nl), .ref (73), .int (nI ap), .int (nI ns), .ref (74), .ref (75), .ref (76), .ref (77), .ref (78), .ref (79), .ref (80), .ref (81), .ref (82), .ref (83), .ref (84), .int (nI dy), .ref (85), .ref (86), .ref (87), .ref (88), .ref (89), .ref (90)])) := ⟨_, rfl⟩
    refine gj_mem eC5 ?_
    have f6 : C5 (70) = .inr (5, [.int (1), .ref (71), .int (nI sg), .int (nI li), .ref (72), .int (nI nl), .ref (73), .int (nI ap), .int (nI ns), .ref (74), .ref (75), .ref (76), .ref (77), .ref (78), .ref (79), .ref (80), .ref (81), .ref (82), .ref (83), .ref (84), .int (nI dy), .ref (85), .ref (86), .ref (87), .ref (88), .ref (89), .ref (90)]) := by rw [eC5]; exact va_up_self _ _ _
    refine gj_aload_n d_Mo_currency_40 rfl ?_
    refine gj_get d_Mo_currency_41 gf_Mo_7 f6 rfl ?_
    refine gj_if_eq (tgt := 49) d_Mo_currency_44 (by decide) (fun h44 => absurd h44 (by decide)) (fun h44 => ?_)
    refine gj_kc (v := 0) d_Mo_currency_47 (by decide) ?_
    refine gj_iret rfl (Nat.zero_le _) (Nat.zero_le _) d_Mo_currency_48 ?_
    exact ⟨rfl, rfl, f6, fun y c0 => by show C5 y = C y; rw [eC5, va_up_ne _ _ (by assumption)]⟩
set_option maxHeartbeats 2000000 in
theorem c_Mo_currency_loop {d K N n sg li nl ap ns dy : Nat} {tc : Int32} {C : Nat → va_E} {da du dd : Nat → Int32} (m70 : C (70) = .inr (5, [.int (tc), .ref (71), .int (nI sg), .int (nI li), .ref (72), .int (nI nl), .ref (73), .int (nI ap), .int (nI ns), .ref (74), .ref (75), .ref (76), .ref (77), .ref (78), .ref (79), .ref (80), .ref (81), .ref (82), .ref (83), .ref (84), .int (nI dy), .ref (85), .ref (86), .ref (87), .ref (88), .ref (89), .ref (90)])) (m85 : C (85) = .inl (0, 8, .inl da)) (m86 : C (86) = .inl (0, 8, .inl du)) (m87 : C (87) = .inl (0, 8, .inl dd)) (hdy : dy ≤ 8) {wn u dw : Int32} {Q : gj_R → Prop} : ∀ (m : Nat) (i : Nat), i + m = dy → gj_G md_Mo_currency (d + 1) K N 0 0 78 [(0, .ref 70), (1, .int wn), (2, .int u), (3, .int dw), (4, .int (nI (pf_pl da wn m i)))] [] n C Q → gj_G md_Mo_currency (d + 1) K N 0 0 52 [(0, .ref (70)), (1, .int (wn)), (2, .int (u)), (3, .int (dw)), (4, .int (nI i))] [] (n) C Q := by
  intro m
  induction m with
  | zero =>
    intro i hm hend
    refine gj_iload d_Mo_currency_52 rfl ?_
    refine gj_aload_n d_Mo_currency_54 rfl ?_
    refine gj_get d_Mo_currency_55 gf_Mo_72 m70 rfl ?_
    refine gj_icmp_ge (tgt := 78) d_Mo_currency_58 (by decide) (fun h58 => ?_) (fun h58 => by have m58 : ¬ (dy ≤ i) := fun q => h58 ((nI_leI (a := dy) (b := i) (by omega) (by omega)).mpr q); exact absurd (show dy ≤ i from by omega) m58)
    have m58 : dy ≤ i := (nI_leI (a := dy) (b := i) (by omega) (by omega)).mp h58
    refine gj_less (lc' := [(0, .ref (70)), (1, .int (wn)), (2, .int (u)), (3, .int (dw)), (4, .int (nI i))]) ⟨rfl, rfl, rfl, rfl, rfl, trivial⟩ ?_
    exact hend
  | succ m ih =>
    intro i hm hend
    refine gj_iload d_Mo_currency_52 rfl ?_
    refine gj_aload_n d_Mo_currency_54 rfl ?_
    refine gj_get d_Mo_currency_55 gf_Mo_72 m70 rfl ?_
    refine gj_icmp_ge (tgt := 78) d_Mo_currency_58 (by decide) (fun h58 => by have m58 : dy ≤ i := (nI_leI (a := dy) (b := i) (by omega) (by omega)).mp h58; exact absurd m58 (show ¬ (dy ≤ i) from by omega)) (fun h58 => ?_)
    have m58 : ¬ (dy ≤ i) := fun q => h58 ((nI_leI (a := dy) (b := i) (by omega) (by omega)).mpr q)
    refine gj_aload_n d_Mo_currency_61 rfl ?_
    refine gj_get d_Mo_currency_62 gf_Mo_75 m70 rfl ?_
    refine gj_iload d_Mo_currency_65 rfl ?_
    refine gj_iald d_Mo_currency_67 m85 rfl (vp_in_nI (by omega) (by decide)) ?_
    refine gj_top (y := da (i)) (congrArg da (nI_clamp (by omega))) ?_
    refine gj_iload_n d_Mo_currency_68 rfl ?_
    refine gj_icmp_eq (tgt := 78) d_Mo_currency_69 (by decide) (fun h69 => ?_) (fun h69 => ?_)
    · refine gj_less (lc' := [(0, .ref (70)), (1, .int (wn)), (2, .int (u)), (3, .int (dw)), (4, .int (nI i))]) ⟨rfl, rfl, rfl, rfl, rfl, trivial⟩ ?_
      have e : pf_pl da wn (m + 1) i = i := if_pos h69
      rw [e] at hend; exact hend
    · refine gj_iincN d_Mo_currency_72 rfl (by decide) ?_
      refine gj_goto (tgt := 52) d_Mo_currency_75 (by decide) ?_
      refine gj_less (lc' := [(0, .ref (70)), (1, .int (wn)), (2, .int (u)), (3, .int (dw)), (4, .int (nI (i + 1)))]) ⟨rfl, rfl, rfl, rfl, rfl, trivial⟩ ?_
      refine ih (i + 1) (by omega) ?_
      have e : pf_pl da wn (m + 1) i = pf_pl da wn m (i + 1) := if_neg h69
      rw [e] at hend; exact hend
set_option maxHeartbeats 2000000 in
theorem c_Mo_currency_x2 {d K N n sg li nl ap ns dy : Nat} {tc : Int32} {C : Nat → va_E} {da du dd : Nat → Int32} (m70 : C (70) = .inr (5, [.int (tc), .ref (71), .int (nI sg), .int (nI li), .ref (72), .int (nI nl), .ref (73), .int (nI ap), .int (nI ns), .ref (74), .ref (75), .ref (76), .ref (77), .ref (78), .ref (79), .ref (80), .ref (81), .ref (82), .ref (83), .ref (84), .int (nI dy), .ref (85), .ref (86), .ref (87), .ref (88), .ref (89), .ref (90)])) (m85 : C (85) = .inl (0, 8, .inl da)) (m86 : C (86) = .inl (0, 8, .inl du)) (m87 : C (87) = .inl (0, 8, .inl dd)) (hdy : dy ≤ 8) {wn u dw : Int32} (h : (0 ≤ wn ∧ wn ≤ 10000) ∧ (1 ≤ u ∧ u ≤ 100000) ∧ (1 ≤ dw ∧ dw ≤ 100000)) (hr : ¬ (pf_pl da wn dy 0) < 8) : gj_G md_Mo_currency (d + 1) K N 0 0 0 [(0, .ref (70)), (1, .int (wn)), (2, .int (u)), (3, .int (dw))] [] (n) C (fun r => r.1 = gj_iv 0 ∧ r.2.1 = n ∧ r.2.2 70 = .inr (5, [.int (2), .ref (71), .int (nI sg), .int (nI li), .ref (72), .int (nI nl), .ref (73), .int (nI ap), .int (nI ns), .ref (74), .ref (75), .ref (76), .ref (77), .ref (78), .ref (79), .ref (80), .ref (81), .ref (82), .ref (83), .ref (84), .int (nI dy), .ref (85), .ref (86), .ref (87), .ref (88), .ref (89), .ref (90)]) ∧ ∀ y, y ≠ 70 → r.2.2 y = C y) := by
  refine gj_aload_n d_Mo_currency_0 rfl ?_
  refine gj_iload_n d_Mo_currency_1 rfl ?_
  refine gj_kc (v := 0) d_Mo_currency_2 (by decide) ?_
  refine gj_ks (v := 10000) d_Mo_currency_3 (by decide) ?_
  refine gj_callS (as := [.int (wn), .int (0), .int (10000)]) (rest := [.ref (70)]) (K1 := 0) (N1 := 0) d_Mo_currency_6 mo_Mo_not gw_687 gw_688 gw_25 pl_Mo_not (Nat.le_of_ble_eq_true rfl) (Nat.le_of_ble_eq_true rfl) (Nat.zero_le _) (Nat.zero_le _) (c_Mo_not (wn) (0) (10000)) (fun E n' C' _ h => by cases h) (fun v n' C' _ h => ?_)
  cases h
  refine gj_top (y := 0) (pm_nt0 h.1) ?_
  refine gj_if_ne (tgt := 32) d_Mo_currency_9 (by decide) (fun h9 => absurd (by decide) h9) (fun h9 => ?_)
  refine gj_iload_n d_Mo_currency_12 rfl ?_
  refine gj_kc (v := 1) d_Mo_currency_13 (by decide) ?_
  refine gj_ldc d_Mo_currency_14 gw_706 ?_
  refine gj_callS (as := [.int (u), .int (1), .int (100000)]) (rest := [.ref (70)]) (K1 := 0) (N1 := 0) d_Mo_currency_16 mo_Mo_not gw_687 gw_688 gw_25 pl_Mo_not (Nat.le_of_ble_eq_true rfl) (Nat.le_of_ble_eq_true rfl) (Nat.zero_le _) (Nat.zero_le _) (c_Mo_not (u) (1) (100000)) (fun E n' C' _ h => by cases h) (fun v n' C' _ h => ?_)
  cases h
  refine gj_top (y := 0) (pm_nt0 h.2.1) ?_
  refine gj_if_ne (tgt := 32) d_Mo_currency_19 (by decide) (fun h19 => absurd (by decide) h19) (fun h19 => ?_)
  refine gj_iload_n d_Mo_currency_22 rfl ?_
  refine gj_kc (v := 1) d_Mo_currency_23 (by decide) ?_
  refine gj_ldc d_Mo_currency_24 gw_706 ?_
  refine gj_callS (as := [.int (dw), .int (1), .int (100000)]) (rest := [.ref (70)]) (K1 := 0) (N1 := 0) d_Mo_currency_26 mo_Mo_not gw_687 gw_688 gw_25 pl_Mo_not (Nat.le_of_ble_eq_true rfl) (Nat.le_of_ble_eq_true rfl) (Nat.zero_le _) (Nat.zero_le _) (c_Mo_not (dw) (1) (100000)) (fun E n' C' _ h => by cases h) (fun v n' C' _ h => ?_)
  cases h
  refine gj_top (y := 0) (pm_nt0 h.2.2) ?_
  refine gj_if_eq (tgt := 36) d_Mo_currency_29 (by decide) (fun h29 => ?_) (fun h29 => absurd (by decide) h29)
  refine gj_kc (v := 0) d_Mo_currency_36 (by decide) ?_
  refine gj_put d_Mo_currency_37 gp_Mo_7 m70 (Nat.le_of_ble_eq_true rfl) (fun _ => rfl) (fun _ => rfl) ?_
  obtain ⟨C1, eC1⟩ : ∃ Z0, Z0 = va_up C (70) (.inr (5, [.int (0), .ref (71), .int (nI sg), .int (nI li), .ref (72), .int (nI nl), .ref (73), .int (nI ap), .int (nI ns), .ref (74), .ref (75), .ref (76), .ref (77), .ref (78), .ref (79), .ref (80), .ref (81), .ref (82), .ref (83), .ref (84), .int (nI dy), .ref (85), .ref (86), .ref (87), .ref (88), .ref (89), .ref (90)])) := ⟨_, rfl⟩
  refine gj_mem eC1 ?_
  have f2 : C1 (70) = .inr (5, [.int (0), .ref (71), .int (nI sg), .int (nI li), .ref (72), .int (nI nl), .ref (73), .int (nI ap), .int (nI ns), .ref (74), .ref (75), .ref (76), .ref (77), .ref (78), .ref (79), .ref (80), .ref (81), .ref (82), .ref (83), .ref (84), .int (nI dy), .ref (85), .ref (86), .ref (87), .ref (88), .ref (89), .ref (90)]) := by rw [eC1]; exact va_up_self _ _ _
  have f3 : C1 (85) = .inl (0, 8, .inl da) := by rw [eC1, va_up_ne _ _ (by omega)]; exact m85
  have f4 : C1 (86) = .inl (0, 8, .inl du) := by rw [eC1, va_up_ne _ _ (by omega)]; exact m86
  have f5 : C1 (87) = .inl (0, 8, .inl dd) := by rw [eC1, va_up_ne _ _ (by omega)]; exact m87
  refine gj_aload_n d_Mo_currency_40 rfl ?_
  refine gj_get d_Mo_currency_41 gf_Mo_7 f2 rfl ?_
  refine gj_if_eq (tgt := 49) d_Mo_currency_44 (by decide) (fun h44 => ?_) (fun h44 => absurd (by decide) h44)
  refine gj_kc (v := 0) d_Mo_currency_49 (by decide) ?_
  refine gj_istore d_Mo_currency_50 (by decide) ?_
  refine gj_less (lc' := [(0, .ref (70)), (1, .int (wn)), (2, .int (u)), (3, .int (dw)), (4, .int (nI 0))]) ⟨rfl, rfl, rfl, rfl, rfl, trivial⟩ ?_
  have hpp := pf_pl_le da wn dy 0
  refine c_Mo_currency_loop f2 f3 f4 f5 hdy dy 0 (by omega) ?_
  refine gj_aload_n d_Mo_currency_78 rfl ?_
  refine gj_iload d_Mo_currency_79 rfl ?_
  refine gj_kb (v := 8) d_Mo_currency_81 (by decide) ?_
  refine gj_icmp_ne (tgt := 90) d_Mo_currency_83 (by decide) (fun h83 => by have m83 : ¬ (pf_pl da wn dy 0 = 8) := fun q => h83 ((nI_eq (a := pf_pl da wn dy 0) (b := 8) (by omega) (by omega)).mpr q); exact absurd (show pf_pl da wn dy 0 = 8 from by omega) m83) (fun h83 => ?_)
  have m83 : pf_pl da wn dy 0 = 8 := (nI_eq (a := pf_pl da wn dy 0) (b := 8) (by omega) (by omega)).mp h83
  refine gj_kc (v := 2) d_Mo_currency_86 (by decide) ?_
  refine gj_goto (tgt := 91) d_Mo_currency_87 (by decide) ?_
  refine gj_put d_Mo_currency_91 gp_Mo_7 f2 (Nat.le_of_ble_eq_true rfl) (fun _ => rfl) (fun _ => rfl) ?_
  obtain ⟨C6, eC6⟩ : ∃ Z0, Z0 = va_up C1 (70) (.inr (5, [.int (2), .ref (71), .int (nI sg), .int (nI li), .ref (72), .int (nI nl), .ref (73), .int (nI ap), .int (nI ns), .ref (74), .ref (75), .ref (76), .ref (77), .ref (78), .ref (79), .ref (80), .ref (81), .ref (82), .ref (83), .ref (84), .int (nI dy), .ref (85), .ref (86), .ref (87), .ref (88), .ref (89), .ref (90)])) := ⟨_, rfl⟩
  refine gj_mem eC6 ?_
  have f7 : C6 (70) = .inr (5, [.int (2), .ref (71), .int (nI sg), .int (nI li), .ref (72), .int (nI nl), .ref (73), .int (nI ap), .int (nI ns), .ref (74), .ref (75), .ref (76), .ref (77), .ref (78), .ref (79), .ref (80), .ref (81), .ref (82), .ref (83), .ref (84), .int (nI dy), .ref (85), .ref (86), .ref (87), .ref (88), .ref (89), .ref (90)]) := by rw [eC6]; exact va_up_self _ _ _
  have f8 : C6 (85) = .inl (0, 8, .inl da) := by rw [eC6, va_up_ne _ _ (by omega)]; exact f3
  have f9 : C6 (86) = .inl (0, 8, .inl du) := by rw [eC6, va_up_ne _ _ (by omega)]; exact f4
  have f10 : C6 (87) = .inl (0, 8, .inl dd) := by rw [eC6, va_up_ne _ _ (by omega)]; exact f5
  refine gj_aload_n d_Mo_currency_94 rfl ?_
  refine gj_get d_Mo_currency_95 gf_Mo_7 f7 rfl ?_
  refine gj_if_eq (tgt := 103) d_Mo_currency_98 (by decide) (fun h98 => absurd h98 (by decide)) (fun h98 => ?_)
  refine gj_kc (v := 0) d_Mo_currency_101 (by decide) ?_
  refine gj_iret rfl (Nat.zero_le _) (Nat.zero_le _) d_Mo_currency_102 ?_
  exact ⟨rfl, rfl, f7, fun y c0 => by show C6 y = C y; rw [eC6, va_up_ne _ _ (by assumption), eC1, va_up_ne _ _ (by assumption)]⟩
set_option maxHeartbeats 2000000 in
theorem c_Mo_currency {d K N n sg li nl ap ns dy : Nat} {tc : Int32} {C : Nat → va_E} {da du dd : Nat → Int32} (m70 : C (70) = .inr (5, [.int (tc), .ref (71), .int (nI sg), .int (nI li), .ref (72), .int (nI nl), .ref (73), .int (nI ap), .int (nI ns), .ref (74), .ref (75), .ref (76), .ref (77), .ref (78), .ref (79), .ref (80), .ref (81), .ref (82), .ref (83), .ref (84), .int (nI dy), .ref (85), .ref (86), .ref (87), .ref (88), .ref (89), .ref (90)])) (m85 : C (85) = .inl (0, 8, .inl da)) (m86 : C (86) = .inl (0, 8, .inl du)) (m87 : C (87) = .inl (0, 8, .inl dd)) (hdy : dy ≤ 8) {wn u dw : Int32} (h : (0 ≤ wn ∧ wn ≤ 10000) ∧ (1 ≤ u ∧ u ≤ 100000) ∧ (1 ≤ dw ∧ dw ≤ 100000)) (hr : (pf_pl da wn dy 0) < 8) : gj_G md_Mo_currency (d + 1) K N 0 0 0 [(0, .ref (70)), (1, .int (wn)), (2, .int (u)), (3, .int (dw))] [] (n) C (fun r => r.1 = gj_iv (nI (max dy ((pf_pl da wn dy 0) + 1))) ∧ r.2.1 = n ∧ r.2.2 70 = .inr (5, [.int (0), .ref (71), .int (nI sg), .int (nI li), .ref (72), .int (nI nl), .ref (73), .int (nI ap), .int (nI ns), .ref (74), .ref (75), .ref (76), .ref (77), .ref (78), .ref (79), .ref (80), .ref (81), .ref (82), .ref (83), .ref (84), .int (nI (max dy ((pf_pl da wn dy 0) + 1))), .ref (85), .ref (86), .ref (87), .ref (88), .ref (89), .ref (90)]) ∧ r.2.2 85 = .inl (0, 8, .inl (upd da (pf_pl da wn dy 0) wn)) ∧ r.2.2 86 = .inl (0, 8, .inl (upd du (pf_pl da wn dy 0) u)) ∧ r.2.2 87 = .inl (0, 8, .inl (upd dd (pf_pl da wn dy 0) dw)) ∧ ∀ y, y ≠ 70 → y ≠ 85 → y ≠ 86 → y ≠ 87 → r.2.2 y = C y) := by
  refine gj_aload_n d_Mo_currency_0 rfl ?_
  refine gj_iload_n d_Mo_currency_1 rfl ?_
  refine gj_kc (v := 0) d_Mo_currency_2 (by decide) ?_
  refine gj_ks (v := 10000) d_Mo_currency_3 (by decide) ?_
  refine gj_callS (as := [.int (wn), .int (0), .int (10000)]) (rest := [.ref (70)]) (K1 := 0) (N1 := 0) d_Mo_currency_6 mo_Mo_not gw_687 gw_688 gw_25 pl_Mo_not (Nat.le_of_ble_eq_true rfl) (Nat.le_of_ble_eq_true rfl) (Nat.zero_le _) (Nat.zero_le _) (c_Mo_not (wn) (0) (10000)) (fun E n' C' _ h => by cases h) (fun v n' C' _ h => ?_)
  cases h
  refine gj_top (y := 0) (pm_nt0 h.1) ?_
  refine gj_if_ne (tgt := 32) d_Mo_currency_9 (by decide) (fun h9 => absurd (by decide) h9) (fun h9 => ?_)
  refine gj_iload_n d_Mo_currency_12 rfl ?_
  refine gj_kc (v := 1) d_Mo_currency_13 (by decide) ?_
  refine gj_ldc d_Mo_currency_14 gw_706 ?_
  refine gj_callS (as := [.int (u), .int (1), .int (100000)]) (rest := [.ref (70)]) (K1 := 0) (N1 := 0) d_Mo_currency_16 mo_Mo_not gw_687 gw_688 gw_25 pl_Mo_not (Nat.le_of_ble_eq_true rfl) (Nat.le_of_ble_eq_true rfl) (Nat.zero_le _) (Nat.zero_le _) (c_Mo_not (u) (1) (100000)) (fun E n' C' _ h => by cases h) (fun v n' C' _ h => ?_)
  cases h
  refine gj_top (y := 0) (pm_nt0 h.2.1) ?_
  refine gj_if_ne (tgt := 32) d_Mo_currency_19 (by decide) (fun h19 => absurd (by decide) h19) (fun h19 => ?_)
  refine gj_iload_n d_Mo_currency_22 rfl ?_
  refine gj_kc (v := 1) d_Mo_currency_23 (by decide) ?_
  refine gj_ldc d_Mo_currency_24 gw_706 ?_
  refine gj_callS (as := [.int (dw), .int (1), .int (100000)]) (rest := [.ref (70)]) (K1 := 0) (N1 := 0) d_Mo_currency_26 mo_Mo_not gw_687 gw_688 gw_25 pl_Mo_not (Nat.le_of_ble_eq_true rfl) (Nat.le_of_ble_eq_true rfl) (Nat.zero_le _) (Nat.zero_le _) (c_Mo_not (dw) (1) (100000)) (fun E n' C' _ h => by cases h) (fun v n' C' _ h => ?_)
  cases h
  refine gj_top (y := 0) (pm_nt0 h.2.2) ?_
  refine gj_if_eq (tgt := 36) d_Mo_currency_29 (by decide) (fun h29 => ?_) (fun h29 => absurd (by decide) h29)
  refine gj_kc (v := 0) d_Mo_currency_36 (by decide) ?_
  refine gj_put d_Mo_currency_37 gp_Mo_7 m70 (Nat.le_of_ble_eq_true rfl) (fun _ => rfl) (fun _ => rfl) ?_
  obtain ⟨C1, eC1⟩ : ∃ Z0, Z0 = va_up C (70) (.inr (5, [.int (0), .ref (71), .int (nI sg), .int (nI li), .ref (72), .int (nI nl), .ref (73), .int (nI ap), .int (nI ns), .ref (74), .ref (75), .ref (76), .ref (77), .ref (78), .ref (79), .ref (80), .ref (81), .ref (82), .ref (83), .ref (84), .int (nI dy), .ref (85), .ref (86), .ref (87), .ref (88), .ref (89), .ref (90)])) := ⟨_, rfl⟩
  refine gj_mem eC1 ?_
  have f2 : C1 (70) = .inr (5, [.int (0), .ref (71), .int (nI sg), .int (nI li), .ref (72), .int (nI nl), .ref (73), .int (nI ap), .int (nI ns), .ref (74), .ref (75), .ref (76), .ref (77), .ref (78), .ref (79), .ref (80), .ref (81), .ref (82), .ref (83), .ref (84), .int (nI dy), .ref (85), .ref (86), .ref (87), .ref (88), .ref (89), .ref (90)]) := by rw [eC1]; exact va_up_self _ _ _
  have f3 : C1 (85) = .inl (0, 8, .inl da) := by rw [eC1, va_up_ne _ _ (by omega)]; exact m85
  have f4 : C1 (86) = .inl (0, 8, .inl du) := by rw [eC1, va_up_ne _ _ (by omega)]; exact m86
  have f5 : C1 (87) = .inl (0, 8, .inl dd) := by rw [eC1, va_up_ne _ _ (by omega)]; exact m87
  refine gj_aload_n d_Mo_currency_40 rfl ?_
  refine gj_get d_Mo_currency_41 gf_Mo_7 f2 rfl ?_
  refine gj_if_eq (tgt := 49) d_Mo_currency_44 (by decide) (fun h44 => ?_) (fun h44 => absurd (by decide) h44)
  refine gj_kc (v := 0) d_Mo_currency_49 (by decide) ?_
  refine gj_istore d_Mo_currency_50 (by decide) ?_
  refine gj_less (lc' := [(0, .ref (70)), (1, .int (wn)), (2, .int (u)), (3, .int (dw)), (4, .int (nI 0))]) ⟨rfl, rfl, rfl, rfl, rfl, trivial⟩ ?_
  have hpp := pf_pl_le da wn dy 0
  refine c_Mo_currency_loop f2 f3 f4 f5 hdy dy 0 (by omega) ?_
  refine gj_aload_n d_Mo_currency_78 rfl ?_
  refine gj_iload d_Mo_currency_79 rfl ?_
  refine gj_kb (v := 8) d_Mo_currency_81 (by decide) ?_
  refine gj_icmp_ne (tgt := 90) d_Mo_currency_83 (by decide) (fun h83 => ?_) (fun h83 => by have m83 : pf_pl da wn dy 0 = 8 := (nI_eq (a := pf_pl da wn dy 0) (b := 8) (by omega) (by omega)).mp h83; exact absurd m83 (show ¬ (pf_pl da wn dy 0 = 8) from by omega))
  have m83 : ¬ (pf_pl da wn dy 0 = 8) := fun q => h83 ((nI_eq (a := pf_pl da wn dy 0) (b := 8) (by omega) (by omega)).mpr q)
  refine gj_kc (v := 0) d_Mo_currency_90 (by decide) ?_
  refine gj_put d_Mo_currency_91 gp_Mo_7 f2 (Nat.le_of_ble_eq_true rfl) (fun _ => rfl) (fun _ => rfl) ?_
  obtain ⟨C6, eC6⟩ : ∃ Z0, Z0 = va_up C1 (70) (.inr (5, [.int (0), .ref (71), .int (nI sg), .int (nI li), .ref (72), .int (nI nl), .ref (73), .int (nI ap), .int (nI ns), .ref (74), .ref (75), .ref (76), .ref (77), .ref (78), .ref (79), .ref (80), .ref (81), .ref (82), .ref (83), .ref (84), .int (nI dy), .ref (85), .ref (86), .ref (87), .ref (88), .ref (89), .ref (90)])) := ⟨_, rfl⟩
  refine gj_mem eC6 ?_
  have f7 : C6 (70) = .inr (5, [.int (0), .ref (71), .int (nI sg), .int (nI li), .ref (72), .int (nI nl), .ref (73), .int (nI ap), .int (nI ns), .ref (74), .ref (75), .ref (76), .ref (77), .ref (78), .ref (79), .ref (80), .ref (81), .ref (82), .ref (83), .ref (84), .int (nI dy), .ref (85), .ref (86), .ref (87), .ref (88), .ref (89), .ref (90)]) := by rw [eC6]; exact va_up_self _ _ _
  have f8 : C6 (85) = .inl (0, 8, .inl da) := by rw [eC6, va_up_ne _ _ (by omega)]; exact f3
  have f9 : C6 (86) = .inl (0, 8, .inl du) := by rw [eC6, va_up_ne _ _ (by omega)]; exact f4
  have f10 : C6 (87) = .inl (0, 8, .inl dd) := by rw [eC6, va_up_ne _ _ (by omega)]; exact f5
  refine gj_aload_n d_Mo_currency_94 rfl ?_
  refine gj_get d_Mo_currency_95 gf_Mo_7 f7 rfl ?_
  refine gj_if_eq (tgt := 103) d_Mo_currency_98 (by decide) (fun h98 => ?_) (fun h98 => absurd (by decide) h98)
  refine gj_iload d_Mo_currency_103 rfl ?_
  refine gj_aload_n d_Mo_currency_105 rfl ?_
  refine gj_get d_Mo_currency_106 gf_Mo_72 f7 rfl ?_
  refine gj_icmp_ne (tgt := 122) d_Mo_currency_109 (by decide) (fun h109 => ?_) (fun h109 => ?_)
  · have m109 : ¬ (pf_pl da wn dy 0 = dy) := fun q => h109 ((nI_eq (a := pf_pl da wn dy 0) (b := dy) (by omega) (by omega)).mpr q)
    refine gj_aload_n d_Mo_currency_122 rfl ?_
    refine gj_get d_Mo_currency_123 gf_Mo_75 f7 rfl ?_
    refine gj_iload d_Mo_currency_126 rfl ?_
    refine gj_iload_n d_Mo_currency_128 rfl ?_
    refine gj_iast d_Mo_currency_129 f8 rfl (vp_in_nI (by omega) (by decide)) ?_
    obtain ⟨C11, eC11⟩ : ∃ Z0, Z0 = va_up C6 (85) (.inl (0, 8, .inl (upd da (pf_pl da wn dy 0) (wn)))) := ⟨_, rfl⟩
    refine gj_mem (eC11.trans (by rw [nI_clamp (by omega)])) ?_
    have f12 : C11 (70) = .inr (5, [.int (0), .ref (71), .int (nI sg), .int (nI li), .ref (72), .int (nI nl), .ref (73), .int (nI ap), .int (nI ns), .ref (74), .ref (75), .ref (76), .ref (77), .ref (78), .ref (79), .ref (80), .ref (81), .ref (82), .ref (83), .ref (84), .int (nI dy), .ref (85), .ref (86), .ref (87), .ref (88), .ref (89), .ref (90)]) := by rw [eC11, va_up_ne _ _ (by omega)]; exact f7
    have f13 : C11 (85) = .inl (0, 8, .inl (upd da (pf_pl da wn dy 0) (wn))) := by rw [eC11]; exact va_up_self _ _ _
    have f14 : C11 (86) = .inl (0, 8, .inl du) := by rw [eC11, va_up_ne _ _ (by omega)]; exact f9
    have f15 : C11 (87) = .inl (0, 8, .inl dd) := by rw [eC11, va_up_ne _ _ (by omega)]; exact f10
    refine gj_aload_n d_Mo_currency_130 rfl ?_
    refine gj_get d_Mo_currency_131 gf_Mo_78 f12 rfl ?_
    refine gj_iload d_Mo_currency_134 rfl ?_
    refine gj_iload_n d_Mo_currency_136 rfl ?_
    refine gj_iast d_Mo_currency_137 f14 rfl (vp_in_nI (by omega) (by decide)) ?_
    obtain ⟨C16, eC16⟩ : ∃ Z0, Z0 = va_up C11 (86) (.inl (0, 8, .inl (upd du (pf_pl da wn dy 0) (u)))) := ⟨_, rfl⟩
    refine gj_mem (eC16.trans (by rw [nI_clamp (by omega)])) ?_
    have f17 : C16 (70) = .inr (5, [.int (0), .ref (71), .int (nI sg), .int (nI li), .ref (72), .int (nI nl), .ref (73), .int (nI ap), .int (nI ns), .ref (74), .ref (75), .ref (76), .ref (77), .ref (78), .ref (79), .ref (80), .ref (81), .ref (82), .ref (83), .ref (84), .int (nI dy), .ref (85), .ref (86), .ref (87), .ref (88), .ref (89), .ref (90)]) := by rw [eC16, va_up_ne _ _ (by omega)]; exact f12
    have f18 : C16 (85) = .inl (0, 8, .inl (upd da (pf_pl da wn dy 0) (wn))) := by rw [eC16, va_up_ne _ _ (by omega)]; exact f13
    have f19 : C16 (86) = .inl (0, 8, .inl (upd du (pf_pl da wn dy 0) (u))) := by rw [eC16]; exact va_up_self _ _ _
    have f20 : C16 (87) = .inl (0, 8, .inl dd) := by rw [eC16, va_up_ne _ _ (by omega)]; exact f15
    refine gj_aload_n d_Mo_currency_138 rfl ?_
    refine gj_get d_Mo_currency_139 gf_Mo_81 f17 rfl ?_
    refine gj_iload d_Mo_currency_142 rfl ?_
    refine gj_iload_n d_Mo_currency_144 rfl ?_
    refine gj_iast d_Mo_currency_145 f20 rfl (vp_in_nI (by omega) (by decide)) ?_
    obtain ⟨C21, eC21⟩ : ∃ Z0, Z0 = va_up C16 (87) (.inl (0, 8, .inl (upd dd (pf_pl da wn dy 0) (dw)))) := ⟨_, rfl⟩
    refine gj_mem (eC21.trans (by rw [nI_clamp (by omega)])) ?_
    have f22 : C21 (70) = .inr (5, [.int (0), .ref (71), .int (nI sg), .int (nI li), .ref (72), .int (nI nl), .ref (73), .int (nI ap), .int (nI ns), .ref (74), .ref (75), .ref (76), .ref (77), .ref (78), .ref (79), .ref (80), .ref (81), .ref (82), .ref (83), .ref (84), .int (nI dy), .ref (85), .ref (86), .ref (87), .ref (88), .ref (89), .ref (90)]) := by rw [eC21, va_up_ne _ _ (by omega)]; exact f17
    have f23 : C21 (85) = .inl (0, 8, .inl (upd da (pf_pl da wn dy 0) (wn))) := by rw [eC21, va_up_ne _ _ (by omega)]; exact f18
    have f24 : C21 (86) = .inl (0, 8, .inl (upd du (pf_pl da wn dy 0) (u))) := by rw [eC21, va_up_ne _ _ (by omega)]; exact f19
    have f25 : C21 (87) = .inl (0, 8, .inl (upd dd (pf_pl da wn dy 0) (dw))) := by rw [eC21]; exact va_up_self _ _ _
    refine gj_aload_n d_Mo_currency_146 rfl ?_
    refine gj_get d_Mo_currency_147 gf_Mo_72 f22 rfl ?_
    refine gj_iret rfl (Nat.zero_le _) (Nat.zero_le _) d_Mo_currency_150 ?_
    exact ⟨congrArg (fun z => gj_iv (nI z)) (show dy = max dy ((pf_pl da wn dy 0) + 1) by omega), rfl, by rw [← (show dy = max dy ((pf_pl da wn dy 0) + 1) by omega)]; exact f22, f23, f24, f25, fun y c0 c1 c2 c3 => by show C21 y = C y; rw [eC21, va_up_ne _ _ (by assumption), eC16, va_up_ne _ _ (by assumption), eC11, va_up_ne _ _ (by assumption), eC6, va_up_ne _ _ (by assumption), eC1, va_up_ne _ _ (by assumption)]⟩
  · have m109 : pf_pl da wn dy 0 = dy := (nI_eq (a := pf_pl da wn dy 0) (b := dy) (by omega) (by omega)).mp h109
    refine gj_aload_n d_Mo_currency_112 rfl ?_
    refine gj_dup d_Mo_currency_113 rfl ?_
    refine gj_get d_Mo_currency_114 gf_Mo_72 f7 rfl ?_
    refine gj_kc (v := 1) d_Mo_currency_117 (by decide) ?_
    refine gj_iadd d_Mo_currency_118 ?_
    refine gj_top (y := nI (dy + 1)) (nI_add (dy) (1)) ?_
    refine gj_put d_Mo_currency_119 gp_Mo_72 f7 (Nat.le_of_ble_eq_true rfl) (fun _ => rfl) (fun _ => rfl) ?_
    obtain ⟨C26, eC26⟩ : ∃ Z0, Z0 = va_up C6 (70) (.inr (5, [.int (0), .ref (71), .int (nI sg), .int (nI li), .ref (72), .int (nI nl), .ref (73), .int (nI ap), .int (nI ns), .ref (74), .ref (75), .ref (76), .ref (77), .ref (78), .ref (79), .ref (80), .ref (81), .ref (82), .ref (83), .ref (84), .int (nI (dy + 1)), .ref (85), .ref (86), .ref (87), .ref (88), .ref (89), .ref (90)])) := ⟨_, rfl⟩
    refine gj_mem eC26 ?_
    have f27 : C26 (70) = .inr (5, [.int (0), .ref (71), .int (nI sg), .int (nI li), .ref (72), .int (nI nl), .ref (73), .int (nI ap), .int (nI ns), .ref (74), .ref (75), .ref (76), .ref (77), .ref (78), .ref (79), .ref (80), .ref (81), .ref (82), .ref (83), .ref (84), .int (nI (dy + 1)), .ref (85), .ref (86), .ref (87), .ref (88), .ref (89), .ref (90)]) := by rw [eC26]; exact va_up_self _ _ _
    have f28 : C26 (85) = .inl (0, 8, .inl da) := by rw [eC26, va_up_ne _ _ (by omega)]; exact f8
    have f29 : C26 (86) = .inl (0, 8, .inl du) := by rw [eC26, va_up_ne _ _ (by omega)]; exact f9
    have f30 : C26 (87) = .inl (0, 8, .inl dd) := by rw [eC26, va_up_ne _ _ (by omega)]; exact f10
    refine gj_aload_n d_Mo_currency_122 rfl ?_
    refine gj_get d_Mo_currency_123 gf_Mo_75 f27 rfl ?_
    refine gj_iload d_Mo_currency_126 rfl ?_
    refine gj_iload_n d_Mo_currency_128 rfl ?_
    refine gj_iast d_Mo_currency_129 f28 rfl (vp_in_nI (by omega) (by decide)) ?_
    obtain ⟨C31, eC31⟩ : ∃ Z0, Z0 = va_up C26 (85) (.inl (0, 8, .inl (upd da (pf_pl da wn dy 0) (wn)))) := ⟨_, rfl⟩
    refine gj_mem (eC31.trans (by rw [nI_clamp (by omega)])) ?_
    have f32 : C31 (70) = .inr (5, [.int (0), .ref (71), .int (nI sg), .int (nI li), .ref (72), .int (nI nl), .ref (73), .int (nI ap), .int (nI ns), .ref (74), .ref (75), .ref (76), .ref (77), .ref (78), .ref (79), .ref (80), .ref (81), .ref (82), .ref (83), .ref (84), .int (nI (dy + 1)), .ref (85), .ref (86), .ref (87), .ref (88), .ref (89), .ref (90)]) := by rw [eC31, va_up_ne _ _ (by omega)]; exact f27
    have f33 : C31 (85) = .inl (0, 8, .inl (upd da (pf_pl da wn dy 0) (wn))) := by rw [eC31]; exact va_up_self _ _ _
    have f34 : C31 (86) = .inl (0, 8, .inl du) := by rw [eC31, va_up_ne _ _ (by omega)]; exact f29
    have f35 : C31 (87) = .inl (0, 8, .inl dd) := by rw [eC31, va_up_ne _ _ (by omega)]; exact f30
    refine gj_aload_n d_Mo_currency_130 rfl ?_
    refine gj_get d_Mo_currency_131 gf_Mo_78 f32 rfl ?_
    refine gj_iload d_Mo_currency_134 rfl ?_
    refine gj_iload_n d_Mo_currency_136 rfl ?_
    refine gj_iast d_Mo_currency_137 f34 rfl (vp_in_nI (by omega) (by decide)) ?_
    obtain ⟨C36, eC36⟩ : ∃ Z0, Z0 = va_up C31 (86) (.inl (0, 8, .inl (upd du (pf_pl da wn dy 0) (u)))) := ⟨_, rfl⟩
    refine gj_mem (eC36.trans (by rw [nI_clamp (by omega)])) ?_
    have f37 : C36 (70) = .inr (5, [.int (0), .ref (71), .int (nI sg), .int (nI li), .ref (72), .int (nI nl), .ref (73), .int (nI ap), .int (nI ns), .ref (74), .ref (75), .ref (76), .ref (77), .ref (78), .ref (79), .ref (80), .ref (81), .ref (82), .ref (83), .ref (84), .int (nI (dy + 1)), .ref (85), .ref (86), .ref (87), .ref (88), .ref (89), .ref (90)]) := by rw [eC36, va_up_ne _ _ (by omega)]; exact f32
    have f38 : C36 (85) = .inl (0, 8, .inl (upd da (pf_pl da wn dy 0) (wn))) := by rw [eC36, va_up_ne _ _ (by omega)]; exact f33
    have f39 : C36 (86) = .inl (0, 8, .inl (upd du (pf_pl da wn dy 0) (u))) := by rw [eC36]; exact va_up_self _ _ _
    have f40 : C36 (87) = .inl (0, 8, .inl dd) := by rw [eC36, va_up_ne _ _ (by omega)]; exact f35
    refine gj_aload_n d_Mo_currency_138 rfl ?_
    refine gj_get d_Mo_currency_139 gf_Mo_81 f37 rfl ?_
    refine gj_iload d_Mo_currency_142 rfl ?_
    refine gj_iload_n d_Mo_currency_144 rfl ?_
    refine gj_iast d_Mo_currency_145 f40 rfl (vp_in_nI (by omega) (by decide)) ?_
    obtain ⟨C41, eC41⟩ : ∃ Z0, Z0 = va_up C36 (87) (.inl (0, 8, .inl (upd dd (pf_pl da wn dy 0) (dw)))) := ⟨_, rfl⟩
    refine gj_mem (eC41.trans (by rw [nI_clamp (by omega)])) ?_
    have f42 : C41 (70) = .inr (5, [.int (0), .ref (71), .int (nI sg), .int (nI li), .ref (72), .int (nI nl), .ref (73), .int (nI ap), .int (nI ns), .ref (74), .ref (75), .ref (76), .ref (77), .ref (78), .ref (79), .ref (80), .ref (81), .ref (82), .ref (83), .ref (84), .int (nI (dy + 1)), .ref (85), .ref (86), .ref (87), .ref (88), .ref (89), .ref (90)]) := by rw [eC41, va_up_ne _ _ (by omega)]; exact f37
    have f43 : C41 (85) = .inl (0, 8, .inl (upd da (pf_pl da wn dy 0) (wn))) := by rw [eC41, va_up_ne _ _ (by omega)]; exact f38
    have f44 : C41 (86) = .inl (0, 8, .inl (upd du (pf_pl da wn dy 0) (u))) := by rw [eC41, va_up_ne _ _ (by omega)]; exact f39
    have f45 : C41 (87) = .inl (0, 8, .inl (upd dd (pf_pl da wn dy 0) (dw))) := by rw [eC41]; exact va_up_self _ _ _
    refine gj_aload_n d_Mo_currency_146 rfl ?_
    refine gj_get d_Mo_currency_147 gf_Mo_72 f42 rfl ?_
    refine gj_iret rfl (Nat.zero_le _) (Nat.zero_le _) d_Mo_currency_150 ?_
    exact ⟨congrArg (fun z => gj_iv (nI z)) (show dy + 1 = max dy ((pf_pl da wn dy 0) + 1) by omega), rfl, by rw [← (show dy + 1 = max dy ((pf_pl da wn dy 0) + 1) by omega)]; exact f42, f43, f44, f45, fun y c0 c1 c2 c3 => by show C41 y = C y; rw [eC41, va_up_ne _ _ (by assumption), eC36, va_up_ne _ _ (by assumption), eC31, va_up_ne _ _ (by assumption), eC26, va_up_ne _ _ (by assumption), eC6, va_up_ne _ _ (by assumption), eC1, va_up_ne _ _ (by assumption)]⟩
set_option maxHeartbeats 2000000 in
theorem c_Mo_converted_x1 {d K N n sg li nl ap ns dy : Nat} {tc : Int32} {C : Nat → va_E} (m70 : C (70) = .inr (5, [.int (tc), .ref (71), .int (nI sg), .int (nI li), .ref (72), .int (nI nl), .ref (73), .int (nI ap), .int (nI ns), .ref (74), .ref (75), .ref (76), .ref (77), .ref (78), .ref (79), .ref (80), .ref (81), .ref (82), .ref (83), .ref (84), .int (nI dy), .ref (85), .ref (86), .ref (87), .ref (88), .ref (89), .ref (90)])) {ct wn : Int32} (h : ¬ ((0 ≤ ct ∧ ct ≤ 10000000) ∧ (0 ≤ wn ∧ wn ≤ 10000))) : gj_G md_Mo_converted (d + 1) K N 0 0 0 [(0, .ref (70)), (1, .int (ct)), (2, .int (wn))] [] (n) C (fun r => r.1 = gj_lv2 0 ∧ r.2.1 = n ∧ r.2.2 70 = .inr (5, [.int (1), .ref (71), .int (nI sg), .int (nI li), .ref (72), .int (nI nl), .ref (73), .int (nI ap), .int (nI ns), .ref (74), .ref (75), .ref (76), .ref (77), .ref (78), .ref (79), .ref (80), .ref (81), .ref (82), .ref (83), .ref (84), .int (nI dy), .ref (85), .ref (86), .ref (87), .ref (88), .ref (89), .ref (90)]) ∧ ∀ y, y ≠ 70 → r.2.2 y = C y) := by
  refine gj_aload_n d_Mo_converted_0 rfl ?_
  refine gj_iload_n d_Mo_converted_1 rfl ?_
  refine gj_kc (v := 0) d_Mo_converted_2 (by decide) ?_
  refine gj_ldc d_Mo_converted_3 gw_776 ?_
  by_cases a5 : 0 ≤ ct ∧ ct ≤ 10000000
  · refine gj_callS (as := [.int (ct), .int (0), .int (10000000)]) (rest := [.ref (70)]) (K1 := 0) (N1 := 0) d_Mo_converted_5 mo_Mo_not gw_687 gw_688 gw_25 pl_Mo_not (Nat.le_of_ble_eq_true rfl) (Nat.le_of_ble_eq_true rfl) (Nat.zero_le _) (Nat.zero_le _) (c_Mo_not (ct) (0) (10000000)) (fun E n' C' _ h => by cases h) (fun v n' C' _ h => ?_)
    cases h
    refine gj_top (y := 0) (pm_nt0 a5) ?_
    refine gj_if_ne (tgt := 22) d_Mo_converted_8 (by decide) (fun h8 => absurd (by decide) h8) (fun h8 => ?_)
    refine gj_iload_n d_Mo_converted_11 rfl ?_
    refine gj_kc (v := 0) d_Mo_converted_12 (by decide) ?_
    refine gj_ks (v := 10000) d_Mo_converted_13 (by decide) ?_
    by_cases a16 : 0 ≤ wn ∧ wn ≤ 10000
    · refine gj_callS (as := [.int (wn), .int (0), .int (10000)]) (rest := [.ref (70)]) (K1 := 0) (N1 := 0) d_Mo_converted_16 mo_Mo_not gw_687 gw_688 gw_25 pl_Mo_not (Nat.le_of_ble_eq_true rfl) (Nat.le_of_ble_eq_true rfl) (Nat.zero_le _) (Nat.zero_le _) (c_Mo_not (wn) (0) (10000)) (fun E n' C' _ h => by cases h) (fun v n' C' _ h => ?_)
      cases h
      refine gj_top (y := 0) (pm_nt0 a16) ?_
      refine gj_if_eq (tgt := 26) d_Mo_converted_19 (by decide) (fun h19 => ?_) (fun h19 => absurd (by decide) h19)
      exact absurd ⟨a5, a16⟩ h
    · refine gj_callS (as := [.int (wn), .int (0), .int (10000)]) (rest := [.ref (70)]) (K1 := 0) (N1 := 0) d_Mo_converted_16 mo_Mo_not gw_687 gw_688 gw_25 pl_Mo_not (Nat.le_of_ble_eq_true rfl) (Nat.le_of_ble_eq_true rfl) (Nat.zero_le _) (Nat.zero_le _) (c_Mo_not (wn) (0) (10000)) (fun E n' C' _ h => by cases h) (fun v n' C' _ h => ?_)
      cases h
      refine gj_top (y := 1) (pm_nt1 a16) ?_
      refine gj_if_eq (tgt := 26) d_Mo_converted_19 (by decide) (fun h19 => absurd h19 (by decide)) (fun h19 => ?_)
      refine gj_kc (v := 1) d_Mo_converted_22 (by decide) ?_
      refine gj_goto (tgt := 27) d_Mo_converted_23 (by decide) ?_
      refine gj_put d_Mo_converted_27 gp_Mo_7 m70 (Nat.le_of_ble_eq_true rfl) (fun _ => rfl) (fun _ => rfl) ?_
      obtain ⟨C1, eC1⟩ : ∃ Z0, Z0 = va_up C (70) (.inr (5, [.int (1), .ref (71), .int (nI sg), .int (nI li), .ref (72), .int (nI nl), .ref (73), .int (nI ap), .int (nI ns), .ref (74), .ref (75), .ref (76), .ref (77), .ref (78), .ref (79), .ref (80), .ref (81), .ref (82), .ref (83), .ref (84), .int (nI dy), .ref (85), .ref (86), .ref (87), .ref (88), .ref (89), .ref (90)])) := ⟨_, rfl⟩
      refine gj_mem eC1 ?_
      have f2 : C1 (70) = .inr (5, [.int (1), .ref (71), .int (nI sg), .int (nI li), .ref (72), .int (nI nl), .ref (73), .int (nI ap), .int (nI ns), .ref (74), .ref (75), .ref (76), .ref (77), .ref (78), .ref (79), .ref (80), .ref (81), .ref (82), .ref (83), .ref (84), .int (nI dy), .ref (85), .ref (86), .ref (87), .ref (88), .ref (89), .ref (90)]) := by rw [eC1]; exact va_up_self _ _ _
      refine gj_aload_n d_Mo_converted_30 rfl ?_
      refine gj_get d_Mo_converted_31 gf_Mo_7 f2 rfl ?_
      refine gj_if_eq (tgt := 39) d_Mo_converted_34 (by decide) (fun h34 => absurd h34 (by decide)) (fun h34 => ?_)
      refine gj_kl (v := 0) d_Mo_converted_37 (by decide) ?_
      refine gj_lret rfl (Nat.zero_le _) (Nat.zero_le _) d_Mo_converted_38 ?_
      exact ⟨rfl, rfl, f2, fun y c0 => by show C1 y = C y; rw [eC1, va_up_ne _ _ (by assumption)]⟩
  · refine gj_callS (as := [.int (ct), .int (0), .int (10000000)]) (rest := [.ref (70)]) (K1 := 0) (N1 := 0) d_Mo_converted_5 mo_Mo_not gw_687 gw_688 gw_25 pl_Mo_not (Nat.le_of_ble_eq_true rfl) (Nat.le_of_ble_eq_true rfl) (Nat.zero_le _) (Nat.zero_le _) (c_Mo_not (ct) (0) (10000000)) (fun E n' C' _ h => by cases h) (fun v n' C' _ h => ?_)
    cases h
    refine gj_top (y := 1) (pm_nt1 a5) ?_
    refine gj_if_ne (tgt := 22) d_Mo_converted_8 (by decide) (fun h8 => ?_) (fun h8 => absurd h8 (by decide))
    refine gj_kc (v := 1) d_Mo_converted_22 (by decide) ?_
    refine gj_goto (tgt := 27) d_Mo_converted_23 (by decide) ?_
    refine gj_put d_Mo_converted_27 gp_Mo_7 m70 (Nat.le_of_ble_eq_true rfl) (fun _ => rfl) (fun _ => rfl) ?_
    obtain ⟨C3, eC3⟩ : ∃ Z0, Z0 = va_up C (70) (.inr (5, [.int (1), .ref (71), .int (nI sg), .int (nI li), .ref (72), .int (nI nl), .ref (73), .int (nI ap), .int (nI ns), .ref (74), .ref (75), .ref (76), .ref (77), .ref (78), .ref (79), .ref (80), .ref (81), .ref (82), .ref (83), .ref (84), .int (nI dy), .ref (85), .ref (86), .ref (87), .ref (88), .ref (89), .ref (90)])) := ⟨_, rfl⟩
    refine gj_mem eC3 ?_
    have f4 : C3 (70) = .inr (5, [.int (1), .ref (71), .int (nI sg), .int (nI li), .ref (72), .int (nI nl), .ref (73), .int (nI ap), .int (nI ns), .ref (74), .ref (75), .ref (76), .ref (77), .ref (78), .ref (79), .ref (80), .ref (81), .ref (82), .ref (83), .ref (84), .int (nI dy), .ref (85), .ref (86), .ref (87), .ref (88), .ref (89), .ref (90)]) := by rw [eC3]; exact va_up_self _ _ _
    refine gj_aload_n d_Mo_converted_30 rfl ?_
    refine gj_get d_Mo_converted_31 gf_Mo_7 f4 rfl ?_
    refine gj_if_eq (tgt := 39) d_Mo_converted_34 (by decide) (fun h34 => absurd h34 (by decide)) (fun h34 => ?_)
    refine gj_kl (v := 0) d_Mo_converted_37 (by decide) ?_
    refine gj_lret rfl (Nat.zero_le _) (Nat.zero_le _) d_Mo_converted_38 ?_
    exact ⟨rfl, rfl, f4, fun y c0 => by show C3 y = C y; rw [eC3, va_up_ne _ _ (by assumption)]⟩
set_option maxHeartbeats 2000000 in
theorem c_Mo_converted_loop {d K N n sg li nl ap ns dy : Nat} {tc : Int32} {C : Nat → va_E} {da du dd : Nat → Int32} (m70 : C (70) = .inr (5, [.int (tc), .ref (71), .int (nI sg), .int (nI li), .ref (72), .int (nI nl), .ref (73), .int (nI ap), .int (nI ns), .ref (74), .ref (75), .ref (76), .ref (77), .ref (78), .ref (79), .ref (80), .ref (81), .ref (82), .ref (83), .ref (84), .int (nI dy), .ref (85), .ref (86), .ref (87), .ref (88), .ref (89), .ref (90)])) (m85 : C (85) = .inl (0, 8, .inl da)) (m86 : C (86) = .inl (0, 8, .inl du)) (m87 : C (87) = .inl (0, 8, .inl dd)) (hdy : dy ≤ 8) {ct wn : Int32} (hdn : ∀ p, p < dy → ¬ dd p = 0) {Q : gj_R → Prop} : ∀ (m : Nat) (i : Nat) (b : Option Nat), i + m = dy → (∀ p, b = some p → p < i) → Q (gj_lv2 (pc_cv ct du dd (pf_la da wn m i b)), n, C) → gj_G md_Mo_converted (d + 1) K N 0 0 44 [(0, .ref (70)), (1, .int (ct)), (2, .int (wn)), (3, .int (pf_cd b)), (4, .int (nI i))] [] (n) C Q := by
  intro m
  induction m with
  | zero =>
    intro i b hm hb hend
    rcases b with _ | p
    · refine gj_less (lc' := [(0, .ref (70)), (1, .int (ct)), (2, .int (wn)), (3, .int (-1)), (4, .int (nI i))]) ⟨rfl, rfl, rfl, rfl, rfl, trivial⟩ ?_
      refine gj_iload d_Mo_converted_44 rfl ?_
      refine gj_aload_n d_Mo_converted_46 rfl ?_
      refine gj_get d_Mo_converted_47 gf_Mo_72 m70 rfl ?_
      refine gj_icmp_ge (tgt := 93) d_Mo_converted_50 (by decide) (fun h50 => ?_) (fun h50 => by have m50 : ¬ (dy ≤ i) := fun q => h50 ((nI_leI (a := dy) (b := i) (by omega) (by omega)).mpr q); exact absurd (show dy ≤ i from by omega) m50)
      have m50 : dy ≤ i := (nI_leI (a := dy) (b := i) (by omega) (by omega)).mp h50
      refine gj_iload_n d_Mo_converted_93 rfl ?_
      refine gj_if_ge (tgt := 103) d_Mo_converted_94 (by decide) (fun h94 => absurd h94 (by decide)) (fun h94 => ?_)
      refine gj_ldc2 d_Mo_converted_97 gw_793 ?_
      refine gj_goto (tgt := 121) d_Mo_converted_100 (by decide) ?_
      refine gj_lret rfl (Nat.zero_le _) (Nat.zero_le _) d_Mo_converted_121 ?_
      exact hend
    · have hp := hb p rfl
      refine gj_less (lc' := [(0, .ref (70)), (1, .int (ct)), (2, .int (wn)), (3, .int (nI p)), (4, .int (nI i))]) ⟨rfl, rfl, rfl, rfl, rfl, trivial⟩ ?_
      refine gj_iload d_Mo_converted_44 rfl ?_
      refine gj_aload_n d_Mo_converted_46 rfl ?_
      refine gj_get d_Mo_converted_47 gf_Mo_72 m70 rfl ?_
      refine gj_icmp_ge (tgt := 93) d_Mo_converted_50 (by decide) (fun h50 => ?_) (fun h50 => by have m50 : ¬ (dy ≤ i) := fun q => h50 ((nI_leI (a := dy) (b := i) (by omega) (by omega)).mpr q); exact absurd (show dy ≤ i from by omega) m50)
      have m50 : dy ≤ i := (nI_leI (a := dy) (b := i) (by omega) (by omega)).mp h50
      refine gj_iload_n d_Mo_converted_93 rfl ?_
      refine gj_if_ge (tgt := 103) d_Mo_converted_94 (by decide) (fun h94 => ?_) (fun h94 => by have m94 : ¬ (0 ≤ p) := fun q => h94 ((nI_leI (a := 0) (b := p) (by omega) (by omega)).mpr q); exact absurd (show 0 ≤ p from by omega) m94)
      have m94 : 0 ≤ p := (nI_leI (a := 0) (b := p) (by omega) (by omega)).mp h94
      refine gj_iload_n d_Mo_converted_103 rfl ?_
      refine gj_i2l d_Mo_converted_104 ?_
      refine gj_aload_n d_Mo_converted_105 rfl ?_
      refine gj_get d_Mo_converted_106 gf_Mo_78 m70 rfl ?_
      refine gj_iload_n d_Mo_converted_109 rfl ?_
      refine gj_iald d_Mo_converted_110 m86 rfl (vp_in_nI (by omega) (by decide)) ?_
      refine gj_top (y := du (p)) (congrArg du (nI_clamp (by omega))) ?_
      refine gj_i2l d_Mo_converted_111 ?_
      refine gj_lmul d_Mo_converted_112 ?_
      refine gj_aload_n d_Mo_converted_113 rfl ?_
      refine gj_get d_Mo_converted_114 gf_Mo_81 m70 rfl ?_
      refine gj_iload_n d_Mo_converted_117 rfl ?_
      refine gj_iald d_Mo_converted_118 m87 rfl (vp_in_nI (by omega) (by decide)) ?_
      refine gj_top (y := dd (p)) (congrArg dd (nI_clamp (by omega))) ?_
      refine gj_i2l d_Mo_converted_119 ?_
      refine gj_ldiv d_Mo_converted_120 (l64_ne0 (hdn p (by omega))) ?_
      refine gj_lret rfl (Nat.zero_le _) (Nat.zero_le _) d_Mo_converted_121 ?_
      exact hend
  | succ m ih =>
    intro i b hm hb hend
    rcases b with _ | p
    · refine gj_less (lc' := [(0, .ref (70)), (1, .int (ct)), (2, .int (wn)), (3, .int (-1)), (4, .int (nI i))]) ⟨rfl, rfl, rfl, rfl, rfl, trivial⟩ ?_
      refine gj_iload d_Mo_converted_44 rfl ?_
      refine gj_aload_n d_Mo_converted_46 rfl ?_
      refine gj_get d_Mo_converted_47 gf_Mo_72 m70 rfl ?_
      refine gj_icmp_ge (tgt := 93) d_Mo_converted_50 (by decide) (fun h50 => by have m50 : dy ≤ i := (nI_leI (a := dy) (b := i) (by omega) (by omega)).mp h50; exact absurd m50 (show ¬ (dy ≤ i) from by omega)) (fun h50 => ?_)
      have m50 : ¬ (dy ≤ i) := fun q => h50 ((nI_leI (a := dy) (b := i) (by omega) (by omega)).mpr q)
      refine gj_aload_n d_Mo_converted_53 rfl ?_
      refine gj_get d_Mo_converted_54 gf_Mo_75 m70 rfl ?_
      refine gj_iload d_Mo_converted_57 rfl ?_
      refine gj_iald d_Mo_converted_59 m85 rfl (vp_in_nI (by omega) (by decide)) ?_
      refine gj_top (y := da (i)) (congrArg da (nI_clamp (by omega))) ?_
      refine gj_iload_n d_Mo_converted_60 rfl ?_
      refine gj_icmp_gt (tgt := 87) d_Mo_converted_61 (by decide) (fun h61 => ?_) (fun h61 => ?_)
      · refine gj_iincN d_Mo_converted_87 rfl (by decide) ?_
        refine gj_goto (tgt := 44) d_Mo_converted_90 (by decide) ?_
        refine gj_less (lc' := [(0, .ref (70)), (1, .int (ct)), (2, .int (wn)), (3, .int (-1)), (4, .int (nI (i + 1)))]) ⟨rfl, rfl, rfl, rfl, rfl, trivial⟩ ?_
        refine ih (i + 1) none (by omega) (fun k hk => by cases hk) ?_
        have e : (@ite _ (da i ≤ wn ∧ pf_gt da i none) (Classical.propDecidable _) (some i) none) = none := if_neg (fun q => by first | exact absurd h61 (Int32.not_lt.mpr q.1) | exact absurd h81 (Int32.not_le.mpr q.2))
        rw [← e]; exact hend
      · refine gj_iload_n d_Mo_converted_64 rfl ?_
        refine gj_if_lt (tgt := 84) d_Mo_converted_65 (by decide) (fun h65 => ?_) (fun h65 => absurd (by decide) h65)
        refine gj_iload d_Mo_converted_84 rfl ?_
        refine gj_istore_n d_Mo_converted_86 (by decide) ?_
        refine gj_iincN d_Mo_converted_87 rfl (by decide) ?_
        refine gj_goto (tgt := 44) d_Mo_converted_90 (by decide) ?_
        refine gj_less (lc' := [(0, .ref (70)), (1, .int (ct)), (2, .int (wn)), (3, .int (nI i)), (4, .int (nI (i + 1)))]) ⟨rfl, rfl, rfl, rfl, rfl, trivial⟩ ?_
        refine ih (i + 1) (some i) (by omega) (fun k hk => by cases hk; omega) ?_
        have e : (@ite _ (da i ≤ wn ∧ pf_gt da i none) (Classical.propDecidable _) (some i) none) = (some i) := if_pos ⟨Int32.not_lt.mp h61, trivial⟩
        rw [← e]; exact hend
    · have hp := hb p rfl
      refine gj_less (lc' := [(0, .ref (70)), (1, .int (ct)), (2, .int (wn)), (3, .int (nI p)), (4, .int (nI i))]) ⟨rfl, rfl, rfl, rfl, rfl, trivial⟩ ?_
      refine gj_iload d_Mo_converted_44 rfl ?_
      refine gj_aload_n d_Mo_converted_46 rfl ?_
      refine gj_get d_Mo_converted_47 gf_Mo_72 m70 rfl ?_
      refine gj_icmp_ge (tgt := 93) d_Mo_converted_50 (by decide) (fun h50 => by have m50 : dy ≤ i := (nI_leI (a := dy) (b := i) (by omega) (by omega)).mp h50; exact absurd m50 (show ¬ (dy ≤ i) from by omega)) (fun h50 => ?_)
      have m50 : ¬ (dy ≤ i) := fun q => h50 ((nI_leI (a := dy) (b := i) (by omega) (by omega)).mpr q)
      refine gj_aload_n d_Mo_converted_53 rfl ?_
      refine gj_get d_Mo_converted_54 gf_Mo_75 m70 rfl ?_
      refine gj_iload d_Mo_converted_57 rfl ?_
      refine gj_iald d_Mo_converted_59 m85 rfl (vp_in_nI (by omega) (by decide)) ?_
      refine gj_top (y := da (i)) (congrArg da (nI_clamp (by omega))) ?_
      refine gj_iload_n d_Mo_converted_60 rfl ?_
      refine gj_icmp_gt (tgt := 87) d_Mo_converted_61 (by decide) (fun h61 => ?_) (fun h61 => ?_)
      · refine gj_iincN d_Mo_converted_87 rfl (by decide) ?_
        refine gj_goto (tgt := 44) d_Mo_converted_90 (by decide) ?_
        refine gj_less (lc' := [(0, .ref (70)), (1, .int (ct)), (2, .int (wn)), (3, .int (nI p)), (4, .int (nI (i + 1)))]) ⟨rfl, rfl, rfl, rfl, rfl, trivial⟩ ?_
        refine ih (i + 1) (some p) (by omega) (fun k hk => by cases hk; omega) ?_
        have e : (@ite _ (da i ≤ wn ∧ pf_gt da i (some p)) (Classical.propDecidable _) (some i) (some p)) = (some p) := if_neg (fun q => by first | exact absurd h61 (Int32.not_lt.mpr q.1) | exact absurd h81 (Int32.not_le.mpr q.2))
        rw [← e]; exact hend
      · refine gj_iload_n d_Mo_converted_64 rfl ?_
        refine gj_if_lt (tgt := 84) d_Mo_converted_65 (by decide) (fun h65 => by have m65 : p < 0 := (nI_ltI (a := p) (b := 0) (by omega) (by omega)).mp h65; exact absurd m65 (show ¬ (p < 0) from by omega)) (fun h65 => ?_)
        have m65 : ¬ (p < 0) := fun q => h65 ((nI_ltI (a := p) (b := 0) (by omega) (by omega)).mpr q)
        refine gj_aload_n d_Mo_converted_68 rfl ?_
        refine gj_get d_Mo_converted_69 gf_Mo_75 m70 rfl ?_
        refine gj_iload d_Mo_converted_72 rfl ?_
        refine gj_iald d_Mo_converted_74 m85 rfl (vp_in_nI (by omega) (by decide)) ?_
        refine gj_top (y := da (i)) (congrArg da (nI_clamp (by omega))) ?_
        refine gj_aload_n d_Mo_converted_75 rfl ?_
        refine gj_get d_Mo_converted_76 gf_Mo_75 m70 rfl ?_
        refine gj_iload_n d_Mo_converted_79 rfl ?_
        refine gj_iald d_Mo_converted_80 m85 rfl (vp_in_nI (by omega) (by decide)) ?_
        refine gj_top (y := da (p)) (congrArg da (nI_clamp (by omega))) ?_
        refine gj_icmp_le (tgt := 87) d_Mo_converted_81 (by decide) (fun h81 => ?_) (fun h81 => ?_)
        · refine gj_iincN d_Mo_converted_87 rfl (by decide) ?_
          refine gj_goto (tgt := 44) d_Mo_converted_90 (by decide) ?_
          refine gj_less (lc' := [(0, .ref (70)), (1, .int (ct)), (2, .int (wn)), (3, .int (nI p)), (4, .int (nI (i + 1)))]) ⟨rfl, rfl, rfl, rfl, rfl, trivial⟩ ?_
          refine ih (i + 1) (some p) (by omega) (fun k hk => by cases hk; omega) ?_
          have e : (@ite _ (da i ≤ wn ∧ pf_gt da i (some p)) (Classical.propDecidable _) (some i) (some p)) = (some p) := if_neg (fun q => by first | exact absurd h61 (Int32.not_lt.mpr q.1) | exact absurd h81 (Int32.not_le.mpr q.2))
          rw [← e]; exact hend
        · refine gj_iload d_Mo_converted_84 rfl ?_
          refine gj_istore_n d_Mo_converted_86 (by decide) ?_
          refine gj_iincN d_Mo_converted_87 rfl (by decide) ?_
          refine gj_goto (tgt := 44) d_Mo_converted_90 (by decide) ?_
          refine gj_less (lc' := [(0, .ref (70)), (1, .int (ct)), (2, .int (wn)), (3, .int (nI i)), (4, .int (nI (i + 1)))]) ⟨rfl, rfl, rfl, rfl, rfl, trivial⟩ ?_
          refine ih (i + 1) (some i) (by omega) (fun k hk => by cases hk; omega) ?_
          have e : (@ite _ (da i ≤ wn ∧ pf_gt da i (some p)) (Classical.propDecidable _) (some i) (some p)) = (some i) := if_pos ⟨Int32.not_lt.mp h61, Int32.not_le.mp h81⟩
          rw [← e]; exact hend
set_option maxHeartbeats 2000000 in
theorem c_Mo_converted {d K N n sg li nl ap ns dy : Nat} {tc : Int32} {C : Nat → va_E} {da du dd : Nat → Int32} (m70 : C (70) = .inr (5, [.int (tc), .ref (71), .int (nI sg), .int (nI li), .ref (72), .int (nI nl), .ref (73), .int (nI ap), .int (nI ns), .ref (74), .ref (75), .ref (76), .ref (77), .ref (78), .ref (79), .ref (80), .ref (81), .ref (82), .ref (83), .ref (84), .int (nI dy), .ref (85), .ref (86), .ref (87), .ref (88), .ref (89), .ref (90)])) (m85 : C (85) = .inl (0, 8, .inl da)) (m86 : C (86) = .inl (0, 8, .inl du)) (m87 : C (87) = .inl (0, 8, .inl dd)) (hdy : dy ≤ 8) {ct wn : Int32} (hdn : ∀ p, p < dy → ¬ dd p = 0) (h : (0 ≤ ct ∧ ct ≤ 10000000) ∧ (0 ≤ wn ∧ wn ≤ 10000)) : gj_G md_Mo_converted (d + 1) K N 0 0 0 [(0, .ref (70)), (1, .int (ct)), (2, .int (wn))] [] (n) C (fun r => r.1 = gj_lv2 (pc_cv ct du dd (pf_la da wn dy 0 none)) ∧ r.2.1 = n ∧ r.2.2 70 = .inr (5, [.int (0), .ref (71), .int (nI sg), .int (nI li), .ref (72), .int (nI nl), .ref (73), .int (nI ap), .int (nI ns), .ref (74), .ref (75), .ref (76), .ref (77), .ref (78), .ref (79), .ref (80), .ref (81), .ref (82), .ref (83), .ref (84), .int (nI dy), .ref (85), .ref (86), .ref (87), .ref (88), .ref (89), .ref (90)]) ∧ ∀ y, y ≠ 70 → r.2.2 y = C y) := by
  refine gj_aload_n d_Mo_converted_0 rfl ?_
  refine gj_iload_n d_Mo_converted_1 rfl ?_
  refine gj_kc (v := 0) d_Mo_converted_2 (by decide) ?_
  refine gj_ldc d_Mo_converted_3 gw_776 ?_
  refine gj_callS (as := [.int (ct), .int (0), .int (10000000)]) (rest := [.ref (70)]) (K1 := 0) (N1 := 0) d_Mo_converted_5 mo_Mo_not gw_687 gw_688 gw_25 pl_Mo_not (Nat.le_of_ble_eq_true rfl) (Nat.le_of_ble_eq_true rfl) (Nat.zero_le _) (Nat.zero_le _) (c_Mo_not (ct) (0) (10000000)) (fun E n' C' _ h => by cases h) (fun v n' C' _ h => ?_)
  cases h
  refine gj_top (y := 0) (pm_nt0 h.1) ?_
  refine gj_if_ne (tgt := 22) d_Mo_converted_8 (by decide) (fun h8 => absurd (by decide) h8) (fun h8 => ?_)
  refine gj_iload_n d_Mo_converted_11 rfl ?_
  refine gj_kc (v := 0) d_Mo_converted_12 (by decide) ?_
  refine gj_ks (v := 10000) d_Mo_converted_13 (by decide) ?_
  refine gj_callS (as := [.int (wn), .int (0), .int (10000)]) (rest := [.ref (70)]) (K1 := 0) (N1 := 0) d_Mo_converted_16 mo_Mo_not gw_687 gw_688 gw_25 pl_Mo_not (Nat.le_of_ble_eq_true rfl) (Nat.le_of_ble_eq_true rfl) (Nat.zero_le _) (Nat.zero_le _) (c_Mo_not (wn) (0) (10000)) (fun E n' C' _ h => by cases h) (fun v n' C' _ h => ?_)
  cases h
  refine gj_top (y := 0) (pm_nt0 h.2) ?_
  refine gj_if_eq (tgt := 26) d_Mo_converted_19 (by decide) (fun h19 => ?_) (fun h19 => absurd (by decide) h19)
  refine gj_kc (v := 0) d_Mo_converted_26 (by decide) ?_
  refine gj_put d_Mo_converted_27 gp_Mo_7 m70 (Nat.le_of_ble_eq_true rfl) (fun _ => rfl) (fun _ => rfl) ?_
  obtain ⟨C1, eC1⟩ : ∃ Z0, Z0 = va_up C (70) (.inr (5, [.int (0), .ref (71), .int (nI sg), .int (nI li), .ref (72), .int (nI nl), .ref (73), .int (nI ap), .int (nI ns), .ref (74), .ref (75), .ref (76), .ref (77), .ref (78), .ref (79), .ref (80), .ref (81), .ref (82), .ref (83), .ref (84), .int (nI dy), .ref (85), .ref (86), .ref (87), .ref (88), .ref (89), .ref (90)])) := ⟨_, rfl⟩
  refine gj_mem eC1 ?_
  have f2 : C1 (70) = .inr (5, [.int (0), .ref (71), .int (nI sg), .int (nI li), .ref (72), .int (nI nl), .ref (73), .int (nI ap), .int (nI ns), .ref (74), .ref (75), .ref (76), .ref (77), .ref (78), .ref (79), .ref (80), .ref (81), .ref (82), .ref (83), .ref (84), .int (nI dy), .ref (85), .ref (86), .ref (87), .ref (88), .ref (89), .ref (90)]) := by rw [eC1]; exact va_up_self _ _ _
  have f3 : C1 (85) = .inl (0, 8, .inl da) := by rw [eC1, va_up_ne _ _ (by omega)]; exact m85
  have f4 : C1 (86) = .inl (0, 8, .inl du) := by rw [eC1, va_up_ne _ _ (by omega)]; exact m86
  have f5 : C1 (87) = .inl (0, 8, .inl dd) := by rw [eC1, va_up_ne _ _ (by omega)]; exact m87
  refine gj_aload_n d_Mo_converted_30 rfl ?_
  refine gj_get d_Mo_converted_31 gf_Mo_7 f2 rfl ?_
  refine gj_if_eq (tgt := 39) d_Mo_converted_34 (by decide) (fun h34 => ?_) (fun h34 => absurd (by decide) h34)
  refine gj_kc (v := (-1)) d_Mo_converted_39 (by decide) ?_
  refine gj_istore_n d_Mo_converted_40 (by decide) ?_
  refine gj_kc (v := 0) d_Mo_converted_41 (by decide) ?_
  refine gj_istore d_Mo_converted_42 (by decide) ?_
  refine gj_less (lc' := [(0, .ref (70)), (1, .int (ct)), (2, .int (wn)), (3, .int (-1)), (4, .int (nI 0))]) ⟨rfl, rfl, rfl, rfl, rfl, trivial⟩ ?_
  exact c_Mo_converted_loop f2 f3 f4 f5 hdy hdn dy 0 none (by omega) (fun _ h => nomatch h) ⟨rfl, rfl, f2, fun y c0 => by show C1 y = C y; rw [eC1, va_up_ne _ _ (by assumption)]⟩
