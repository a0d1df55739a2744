/-! RateBreaksModel: its public methods -/
set_option maxHeartbeats 2000000 in
theorem c_Mo_sign_x1 {d K N n sg li nl ap ns dy : Nat} {tc : Int32} {C : Nat → va_E} {tx : Nat → Int32} (m70 : C (70) = .inr (5, [.int (tc), .ref (71), .int (nI sg), .int (nI li), .ref (72), .int (nI nl), .ref (73), .int (nI ap), .int (nI ns), .ref (74), .ref (75), .ref (76), .ref (77), .ref (78), .ref (79), .ref (80), .ref (81), .ref (82), .ref (83), .ref (84), .int (nI dy), .ref (85), .ref (86), .ref (87), .ref (88), .ref (89), .ref (90)])) (m71 : C (71) = .inl (0, 600, .inl tx)) {c : Int32} (h : ¬ (0 ≤ c ∧ c ≤ 255)) : gj_G md_Mo_sign (d + 1) K N 0 0 0 [(0, .ref (70)), (1, .int (c))] [] (n) C (fun r => r.1 = gj_iv 0 ∧ r.2.1 = n ∧ r.2.2 70 = .inr (5, [.int (1), .ref (71), .int (nI sg), .int (nI li), .ref (72), .int (nI nl), .ref (73), .int (nI ap), .int (nI ns), .ref (74), .ref (75), .ref (76), .ref (77), .ref (78), .ref (79), .ref (80), .ref (81), .ref (82), .ref (83), .ref (84), .int (nI dy), .ref (85), .ref (86), .ref (87), .ref (88), .ref (89), .ref (90)]) ∧ ∀ y, y ≠ 70 → r.2.2 y = C y) := by
  refine gj_aload_n d_Mo_sign_0 rfl ?_
  refine gj_iload_n d_Mo_sign_1 rfl ?_
  refine gj_kc (v := 0) d_Mo_sign_2 (by decide) ?_
  refine gj_ks (v := 255) d_Mo_sign_3 (by decide) ?_
  refine gj_callS (as := [.int (c), .int (0), .int (255)]) (rest := [.ref (70)]) (K1 := 0) (N1 := 0) d_Mo_sign_6 mo_Mo_not gw_687 gw_688 gw_25 pl_Mo_not (Nat.le_of_ble_eq_true rfl) (Nat.le_of_ble_eq_true rfl) (Nat.zero_le _) (Nat.zero_le _) (c_Mo_not (c) (0) (255)) (fun E n' C' _ h => by cases h) (fun v n' C' _ h => ?_)
  cases h
  refine gj_top (y := 1) (pm_nt1 h) ?_
  refine gj_if_eq (tgt := 16) d_Mo_sign_9 (by decide) (fun h9 => absurd h9 (by decide)) (fun h9 => ?_)
  refine gj_kc (v := 1) d_Mo_sign_12 (by decide) ?_
  refine gj_goto (tgt := 31) d_Mo_sign_13 (by decide) ?_
  refine gj_put d_Mo_sign_31 gp_Mo_7 m70 (Nat.le_of_ble_eq_true rfl) (fun _ => rfl) (fun _ => rfl) ?_
  obtain ⟨C1, eC1⟩ : ∃ Z0, Z0 = va_up C (70) (.inr (5, [.int (1), .ref (71), .int (nI sg), .int (nI li), .ref (72), .int (nI nl), .ref (73), .int (nI ap), .int (nI ns), .ref (74), .ref (75), .ref (76), .ref (77), .ref (78), .ref (79), .ref (80), .ref (81), .ref (82), .ref (83), .ref (84), .int (nI dy), .ref (85), .ref (86), .ref (87), .ref (88), .ref (89), .ref (90)])) := ⟨_, rfl⟩
  refine gj_mem eC1 ?_
  have f2 : C1 (70) = .inr (5, [.int (1), .ref (71), .int (nI sg), .int (nI li), .ref (72), .int (nI nl), .ref (73), .int (nI ap), .int (nI ns), .ref (74), .ref (75), .ref (76), .ref (77), .ref (78), .ref (79), .ref (80), .ref (81), .ref (82), .ref (83), .ref (84), .int (nI dy), .ref (85), .ref (86), .ref (87), .ref (88), .ref (89), .ref (90)]) := by rw [eC1]; exact va_up_self _ _ _
  have f3 : C1 (71) = .inl (0, 600, .inl tx) := by rw [eC1, va_up_ne _ _ (by omega)]; exact m71
  refine gj_aload_n d_Mo_sign_34 rfl ?_
  refine gj_get d_Mo_sign_35 gf_Mo_7 f2 rfl ?_
  refine gj_if_eq (tgt := 43) d_Mo_sign_38 (by decide) (fun h38 => absurd h38 (by decide)) (fun h38 => ?_)
  refine gj_kc (v := 0) d_Mo_sign_41 (by decide) ?_
  refine gj_iret rfl (Nat.zero_le _) (Nat.zero_le _) d_Mo_sign_42 ?_
  exact ⟨rfl, rfl, f2, fun y c0 => by show C1 y = C y; rw [eC1, va_up_ne _ _ (by assumption)]⟩
set_option maxHeartbeats 2000000 in
theorem c_Mo_sign_x2 {d K N n sg li nl ap ns dy : Nat} {tc : Int32} {C : Nat → va_E} {tx : Nat → Int32} (m70 : C (70) = .inr (5, [.int (tc), .ref (71), .int (nI sg), .int (nI li), .ref (72), .int (nI nl), .ref (73), .int (nI ap), .int (nI ns), .ref (74), .ref (75), .ref (76), .ref (77), .ref (78), .ref (79), .ref (80), .ref (81), .ref (82), .ref (83), .ref (84), .int (nI dy), .ref (85), .ref (86), .ref (87), .ref (88), .ref (89), .ref (90)])) (m71 : C (71) = .inl (0, 600, .inl tx)) {c : Int32} (h : 0 ≤ c ∧ c ≤ 255) (h6 : sg ≤ 600) (hl : ¬ sg < 600) : gj_G md_Mo_sign (d + 1) K N 0 0 0 [(0, .ref (70)), (1, .int (c))] [] (n) C (fun r => r.1 = gj_iv 0 ∧ r.2.1 = n ∧ r.2.2 70 = .inr (5, [.int (2), .ref (71), .int (nI sg), .int (nI li), .ref (72), .int (nI nl), .ref (73), .int (nI ap), .int (nI ns), .ref (74), .ref (75), .ref (76), .ref (77), .ref (78), .ref (79), .ref (80), .ref (81), .ref (82), .ref (83), .ref (84), .int (nI dy), .ref (85), .ref (86), .ref (87), .ref (88), .ref (89), .ref (90)]) ∧ ∀ y, y ≠ 70 → r.2.2 y = C y) := by
  refine gj_aload_n d_Mo_sign_0 rfl ?_
  refine gj_iload_n d_Mo_sign_1 rfl ?_
  refine gj_kc (v := 0) d_Mo_sign_2 (by decide) ?_
  refine gj_ks (v := 255) d_Mo_sign_3 (by decide) ?_
  refine gj_callS (as := [.int (c), .int (0), .int (255)]) (rest := [.ref (70)]) (K1 := 0) (N1 := 0) d_Mo_sign_6 mo_Mo_not gw_687 gw_688 gw_25 pl_Mo_not (Nat.le_of_ble_eq_true rfl) (Nat.le_of_ble_eq_true rfl) (Nat.zero_le _) (Nat.zero_le _) (c_Mo_not (c) (0) (255)) (fun E n' C' _ h => by cases h) (fun v n' C' _ h => ?_)
  cases h
  refine gj_top (y := 0) (pm_nt0 h) ?_
  refine gj_if_eq (tgt := 16) d_Mo_sign_9 (by decide) (fun h9 => ?_) (fun h9 => absurd (by decide) h9)
  refine gj_aload_n d_Mo_sign_16 rfl ?_
  refine gj_get d_Mo_sign_17 gf_Mo_17 m70 rfl ?_
  refine gj_ks (v := 600) d_Mo_sign_20 (by decide) ?_
  refine gj_icmp_ne (tgt := 30) d_Mo_sign_23 (by decide) (fun h23 => by have m23 : ¬ (sg = 600) := fun q => h23 ((nI_eq (a := sg) (b := 600) (by omega) (by omega)).mpr q); exact absurd (show sg = 600 from by omega) m23) (fun h23 => ?_)
  have m23 : sg = 600 := (nI_eq (a := sg) (b := 600) (by omega) (by omega)).mp h23
  refine gj_kc (v := 2) d_Mo_sign_26 (by decide) ?_
  refine gj_goto (tgt := 31) d_Mo_sign_27 (by decide) ?_
  refine gj_put d_Mo_sign_31 gp_Mo_7 m70 (Nat.le_of_ble_eq_true rfl) (fun _ => rfl) (fun _ => rfl) ?_
  obtain ⟨C1, eC1⟩ : ∃ Z0, Z0 = va_up C (70) (.inr (5, [.int (2), .ref (71), .int (nI sg), .int (nI li), .ref (72), .int (nI nl), .ref (73), .int (nI ap), .int (nI ns), .ref (74), .ref (75), .ref (76), .ref (77), .ref (78), .ref (79), .ref (80), .ref (81), .ref (82), .ref (83), .ref (84), .int (nI dy), .ref (85), .ref (86), .ref (87), .ref (88), .ref (89), .ref (90)])) := ⟨_, rfl⟩
  refine gj_mem eC1 ?_
  have f2 : C1 (70) = .inr (5, [.int (2), .ref (71), .int (nI sg), .int (nI li), .ref (72), .int (nI nl), .ref (73), .int (nI ap), .int (nI ns), .ref (74), .ref (75), .ref (76), .ref (77), .ref (78), .ref (79), .ref (80), .ref (81), .ref (82), .ref (83), .ref (84), .int (nI dy), .ref (85), .ref (86), .ref (87), .ref (88), .ref (89), .ref (90)]) := by rw [eC1]; exact va_up_self _ _ _
  have f3 : C1 (71) = .inl (0, 600, .inl tx) := by rw [eC1, va_up_ne _ _ (by omega)]; exact m71
  refine gj_aload_n d_Mo_sign_34 rfl ?_
  refine gj_get d_Mo_sign_35 gf_Mo_7 f2 rfl ?_
  refine gj_if_eq (tgt := 43) d_Mo_sign_38 (by decide) (fun h38 => absurd h38 (by decide)) (fun h38 => ?_)
  refine gj_kc (v := 0) d_Mo_sign_41 (by decide) ?_
  refine gj_iret rfl (Nat.zero_le _) (Nat.zero_le _) d_Mo_sign_42 ?_
  exact ⟨rfl, rfl, f2, fun y c0 => by show C1 y = C y; rw [eC1, va_up_ne _ _ (by assumption)]⟩
set_option maxHeartbeats 2000000 in
theorem c_Mo_sign {d K N n sg li nl ap ns dy : Nat} {tc : Int32} {C : Nat → va_E} {tx : Nat → Int32} (m70 : C (70) = .inr (5, [.int (tc), .ref (71), .int (nI sg), .int (nI li), .ref (72), .int (nI nl), .ref (73), .int (nI ap), .int (nI ns), .ref (74), .ref (75), .ref (76), .ref (77), .ref (78), .ref (79), .ref (80), .ref (81), .ref (82), .ref (83), .ref (84), .int (nI dy), .ref (85), .ref (86), .ref (87), .ref (88), .ref (89), .ref (90)])) (m71 : C (71) = .inl (0, 600, .inl tx)) {c : Int32} (h : 0 ≤ c ∧ c ≤ 255) (hl : sg < 600) : gj_G md_Mo_sign (d + 1) K N 0 0 0 [(0, .ref (70)), (1, .int (c))] [] (n) C (fun r => r.1 = gj_iv (nI (sg + 1)) ∧ r.2.1 = n ∧ r.2.2 70 = .inr (5, [.int (0), .ref (71), .int (nI (sg + 1)), .int (nI li), .ref (72), .int (nI nl), .ref (73), .int (nI ap), .int (nI ns), .ref (74), .ref (75), .ref (76), .ref (77), .ref (78), .ref (79), .ref (80), .ref (81), .ref (82), .ref (83), .ref (84), .int (nI dy), .ref (85), .ref (86), .ref (87), .ref (88), .ref (89), .ref (90)]) ∧ r.2.2 71 = .inl (0, 600, .inl (upd tx sg c)) ∧ ∀ y, y ≠ 70 → y ≠ 71 → r.2.2 y = C y) := by
  refine gj_aload_n d_Mo_sign_0 rfl ?_
  refine gj_iload_n d_Mo_sign_1 rfl ?_
  refine gj_kc (v := 0) d_Mo_sign_2 (by decide) ?_
  refine gj_ks (v := 255) d_Mo_sign_3 (by decide) ?_
  refine gj_callS (as := [.int (c), .int (0), .int (255)]) (rest := [.ref (70)]) (K1 := 0) (N1 := 0) d_Mo_sign_6 mo_Mo_not gw_687 gw_688 gw_25 pl_Mo_not (Nat.le_of_ble_eq_true rfl) (Nat.le_of_ble_eq_true rfl) (Nat.zero_le _) (Nat.zero_le _) (c_Mo_not (c) (0) (255)) (fun E n' C' _ h => by cases h) (fun v n' C' _ h => ?_)
  cases h
  refine gj_top (y := 0) (pm_nt0 h) ?_
  refine gj_if_eq (tgt := 16) d_Mo_sign_9 (by decide) (fun h9 => ?_) (fun h9 => absurd (by decide) h9)
  refine gj_aload_n d_Mo_sign_16 rfl ?_
  refine gj_get d_Mo_sign_17 gf_Mo_17 m70 rfl ?_
  refine gj_ks (v := 600) d_Mo_sign_20 (by decide) ?_
  refine gj_icmp_ne (tgt := 30) d_Mo_sign_23 (by decide) (fun h23 => ?_) (fun h23 => by have m23 : sg = 600 := (nI_eq (a := sg) (b := 600) (by omega) (by omega)).mp h23; exact absurd m23 (show ¬ (sg = 600) from by omega))
  have m23 : ¬ (sg = 600) := fun q => h23 ((nI_eq (a := sg) (b := 600) (by omega) (by omega)).mpr q)
  refine gj_kc (v := 0) d_Mo_sign_30 (by decide) ?_
  refine gj_put d_Mo_sign_31 gp_Mo_7 m70 (Nat.le_of_ble_eq_true rfl) (fun _ => rfl) (fun _ => rfl) ?_
  obtain ⟨C1, eC1⟩ : ∃ Z0, Z0 = va_up C (70) (.inr (5, [.int (0), .ref (71), .int (nI sg), .int (nI li), .ref (72), .int (nI nl), .ref (73), .int (nI ap), .int (nI ns), .ref (74), .ref (75), .ref (76), .ref (77), .ref (78), .ref (79), .ref (80), .ref (81), .ref (82), .ref (83), .ref (84), .int (nI dy), .ref (85), .ref (86), .ref (87), .ref (88), .ref (89), .ref (90)])) := ⟨_, rfl⟩
  refine gj_mem eC1 ?_
  have f2 : C1 (70) = .inr (5, [.int (0), .ref (71), .int (nI sg), .int (nI li), .ref (72), .int (nI nl), .ref (73), .int (nI ap), .int (nI ns), .ref (74), .ref (75), .ref (76), .ref (77), .ref (78), .ref (79), .ref (80), .ref (81), .ref (82), .ref (83), .ref (84), .int (nI dy), .ref (85), .ref (86), .ref (87), .ref (88), .ref (89), .ref (90)]) := by rw [eC1]; exact va_up_self _ _ _
  have f3 : C1 (71) = .inl (0, 600, .inl tx) := by rw [eC1, va_up_ne _ _ (by omega)]; exact m71
  refine gj_aload_n d_Mo_sign_34 rfl ?_
  refine gj_get d_Mo_sign_35 gf_Mo_7 f2 rfl ?_
  refine gj_if_eq (tgt := 43) d_Mo_sign_38 (by decide) (fun h38 => ?_) (fun h38 => absurd (by decide) h38)
  refine gj_aload_n d_Mo_sign_43 rfl ?_
  refine gj_get d_Mo_sign_44 gf_Mo_13 f2 rfl ?_
  refine gj_aload_n d_Mo_sign_47 rfl ?_
  refine gj_get d_Mo_sign_48 gf_Mo_17 f2 rfl ?_
  refine gj_iload_n d_Mo_sign_51 rfl ?_
  refine gj_iast d_Mo_sign_52 f3 rfl (vp_in_nI (by omega) (by decide)) ?_
  obtain ⟨C4, eC4⟩ : ∃ Z0, Z0 = va_up C1 (71) (.inl (0, 600, .inl (upd tx (sg) (c)))) := ⟨_, rfl⟩
  refine gj_mem (eC4.trans (by rw [nI_clamp (by omega)])) ?_
  have f5 : C4 (70) = .inr (5, [.int (0), .ref (71), .int (nI sg), .int (nI li), .ref (72), .int (nI nl), .ref (73), .int (nI ap), .int (nI ns), .ref (74), .ref (75), .ref (76), .ref (77), .ref (78), .ref (79), .ref (80), .ref (81), .ref (82), .ref (83), .ref (84), .int (nI dy), .ref (85), .ref (86), .ref (87), .ref (88), .ref (89), .ref (90)]) := by rw [eC4, va_up_ne _ _ (by omega)]; exact f2
  have f6 : C4 (71) = .inl (0, 600, .inl (upd tx (sg) (c))) := by rw [eC4]; exact va_up_self _ _ _
  refine gj_aload_n d_Mo_sign_53 rfl ?_
  refine gj_dup d_Mo_sign_54 rfl ?_
  refine gj_get d_Mo_sign_55 gf_Mo_17 f5 rfl ?_
  refine gj_kc (v := 1) d_Mo_sign_58 (by decide) ?_
  refine gj_iadd d_Mo_sign_59 ?_
  refine gj_top (y := nI (sg + 1)) (nI_add (sg) (1)) ?_
  refine gj_put d_Mo_sign_60 gp_Mo_17 f5 (Nat.le_of_ble_eq_true rfl) (fun _ => rfl) (fun _ => rfl) ?_
  obtain ⟨C7, eC7⟩ : ∃ Z0, Z0 = va_up C4 (70) (.inr (5, [.int (0), .ref (71), .int (nI (sg + 1)), .int (nI li), .ref (72), .int (nI nl), .ref (73), .int (nI ap), .int (nI ns), .ref (74), .ref (75), .ref (76), .ref (77), .ref (78), .ref (79), .ref (80), .ref (81), .ref (82), .ref (83), .ref (84), .int (nI dy), .ref (85), .ref (86), .ref (87), .ref (88), .ref (89), .ref (90)])) := ⟨_, rfl⟩
  refine gj_mem eC7 ?_
  have f8 : C7 (70) = .inr (5, [.int (0), .ref (71), .int (nI (sg + 1)), .int (nI li), .ref (72), .int (nI nl), .ref (73), .int (nI ap), .int (nI ns), .ref (74), .ref (75), .ref (76), .ref (77), .ref (78), .ref (79), .ref (80), .ref (81), .ref (82), .ref (83), .ref (84), .int (nI dy), .ref (85), .ref (86), .ref (87), .ref (88), .ref (89), .ref (90)]) := by rw [eC7]; exact va_up_self _ _ _
  have f9 : C7 (71) = .inl (0, 600, .inl (upd tx (sg) (c))) := by rw [eC7, va_up_ne _ _ (by omega)]; exact f6
  refine gj_aload_n d_Mo_sign_63 rfl ?_
  refine gj_get d_Mo_sign_64 gf_Mo_17 f8 rfl ?_
  refine gj_iret rfl (Nat.zero_le _) (Nat.zero_le _) d_Mo_sign_67 ?_
  exact ⟨rfl, rfl, f8, f9, fun y c0 c1 => by show C7 y = C y; rw [eC7, va_up_ne _ _ (by assumption), eC4, va_up_ne _ _ (by assumption), eC1, va_up_ne _ _ (by assumption)]⟩
set_option maxHeartbeats 2000000 in
theorem c_Mo_shipment_x1 {d K N n sg li nl ap ns dy : Nat} {tc : Int32} {C : Nat → va_E} {zo gr vo se pr le : Nat → Int32} (m70 : C (70) = .inr (5, [.int (tc), .ref (71), .int (nI sg), .int (nI li), .ref (72), .int (nI nl), .ref (73), .int (nI ap), .int (nI ns), .ref (74), .ref (75), .ref (76), .ref (77), .ref (78), .ref (79), .ref (80), .ref (81), .ref (82), .ref (83), .ref (84), .int (nI dy), .ref (85), .ref (86), .ref (87), .ref (88), .ref (89), .ref (90)])) (m75 : C (75) = .inl (0, 20, .inl zo)) (m76 : C (76) = .inl (0, 20, .inl gr)) (m77 : C (77) = .inl (0, 20, .inl vo)) (m78 : C (78) = .inl (0, 20, .inl se)) (m79 : C (79) = .inl (0, 20, .inl pr)) (m80 : C (80) = .inl (0, 20, .inl le)) {z g v : Int32} (h : ¬ ((0 ≤ z ∧ z ≤ 9) ∧ (1 ≤ g ∧ g ≤ 100000) ∧ (0 ≤ v ∧ v ≤ 100000000))) : gj_G md_Mo_shipment (d + 1) K N 0 0 0 [(0, .ref (70)), (1, .int (z)), (2, .int (g)), (3, .int (v))] [] (n) C (fun r => r.1 = gj_iv 0 ∧ r.2.1 = n ∧ r.2.2 70 = .inr (5, [.int (1), .ref (71), .int (nI sg), .int (nI li), .ref (72), .int (nI nl), .ref (73), .int (nI ap), .int (nI ns), .ref (74), .ref (75), .ref (76), .ref (77), .ref (78), .ref (79), .ref (80), .ref (81), .ref (82), .ref (83), .ref (84), .int (nI dy), .ref (85), .ref (86), .ref (87), .ref (88), .ref (89), .ref (90)]) ∧ ∀ y, y ≠ 70 → r.2.2 y = C y) := by
  refine gj_aload_n d_Mo_shipment_0 rfl ?_
  refine gj_iload_n d_Mo_shipment_1 rfl ?_
  refine gj_kc (v := 0) d_Mo_shipment_2 (by decide) ?_
  refine gj_kb (v := 9) d_Mo_shipment_3 (by decide) ?_
  by_cases a5 : 0 ≤ z ∧ z ≤ 9
  · refine gj_callS (as := [.int (z), .int (0), .int (9)]) (rest := [.ref (70)]) (K1 := 0) (N1 := 0) d_Mo_shipment_5 mo_Mo_not gw_687 gw_688 gw_25 pl_Mo_not (Nat.le_of_ble_eq_true rfl) (Nat.le_of_ble_eq_true rfl) (Nat.zero_le _) (Nat.zero_le _) (c_Mo_not (z) (0) (9)) (fun E n' C' _ h => by cases h) (fun v n' C' _ h => ?_)
    cases h
    refine gj_top (y := 0) (pm_nt0 a5) ?_
    refine gj_if_ne (tgt := 31) d_Mo_shipment_8 (by decide) (fun h8 => absurd (by decide) h8) (fun h8 => ?_)
    refine gj_iload_n d_Mo_shipment_11 rfl ?_
    refine gj_kc (v := 1) d_Mo_shipment_12 (by decide) ?_
    refine gj_ldc d_Mo_shipment_13 gw_706 ?_
    by_cases a15 : 1 ≤ g ∧ g ≤ 100000
    · refine gj_callS (as := [.int (g), .int (1), .int (100000)]) (rest := [.ref (70)]) (K1 := 0) (N1 := 0) d_Mo_shipment_15 mo_Mo_not gw_687 gw_688 gw_25 pl_Mo_not (Nat.le_of_ble_eq_true rfl) (Nat.le_of_ble_eq_true rfl) (Nat.zero_le _) (Nat.zero_le _) (c_Mo_not (g) (1) (100000)) (fun E n' C' _ h => by cases h) (fun v n' C' _ h => ?_)
      cases h
      refine gj_top (y := 0) (pm_nt0 a15) ?_
      refine gj_if_ne (tgt := 31) d_Mo_shipment_18 (by decide) (fun h18 => absurd (by decide) h18) (fun h18 => ?_)
      refine gj_iload_n d_Mo_shipment_21 rfl ?_
      refine gj_kc (v := 0) d_Mo_shipment_22 (by decide) ?_
      refine gj_ldc d_Mo_shipment_23 gw_720 ?_
      by_cases a25 : 0 ≤ v ∧ v ≤ 100000000
      · refine gj_callS (as := [.int (v), .int (0), .int (100000000)]) (rest := [.ref (70)]) (K1 := 0) (N1 := 0) d_Mo_shipment_25 mo_Mo_not gw_687 gw_688 gw_25 pl_Mo_not (Nat.le_of_ble_eq_true rfl) (Nat.le_of_ble_eq_true rfl) (Nat.zero_le _) (Nat.zero_le _) (c_Mo_not (v) (0) (100000000)) (fun E n' C' _ h => by cases h) (fun v n' C' _ h => ?_)
        cases h
        refine gj_top (y := 0) (pm_nt0 a25) ?_
        refine gj_if_eq (tgt := 35) d_Mo_shipment_28 (by decide) (fun h28 => ?_) (fun h28 => absurd (by decide) h28)
        exact absurd ⟨a5, a15, a25⟩ h
      · refine gj_callS (as := [.int (v), .int (0), .int (100000000)]) (rest := [.ref (70)]) (K1 := 0) (N1 := 0) d_Mo_shipment_25 mo_Mo_not gw_687 gw_688 gw_25 pl_Mo_not (Nat.le_of_ble_eq_true rfl) (Nat.le_of_ble_eq_true rfl) (Nat.zero_le _) (Nat.zero_le _) (c_Mo_not (v) (0) (100000000)) (fun E n' C' _ h => by cases h) (fun v n' C' _ h => ?_)
        cases h
        refine gj_top (y := 1) (pm_nt1 a25) ?_
        refine gj_if_eq (tgt := 35) d_Mo_shipment_28 (by decide) (fun h28 => absurd h28 (by decide)) (fun h28 => ?_)
        refine gj_kc (v := 1) d_Mo_shipment_31 (by decide) ?_
        refine gj_goto (tgt := 49) d_Mo_shipment_32 (by decide) ?_
        refine gj_put d_Mo_shipment_49 gp_Mo_7 m70 (Nat.le_of_ble_eq_true rfl) (fun _ => rfl) (fun _ => rfl) ?_
        obtain ⟨C1, eC1⟩ : ∃ Z0, Z0 = va_up C (70) (.inr (5, [.int (1), .ref (71), .int (nI sg), .int (nI li), .ref (72), .int (nI nl), .ref (73), .int (nI ap), .int (nI ns), .ref (74), .ref (75), .ref (76), .ref (77), .ref (78), .ref (79), .ref (80), .ref (81), .ref (82), .ref (83), .ref (84), .int (nI dy), .ref (85), .ref (86), .ref (87), .ref (88), .ref (89), .ref (90)])) := ⟨_, rfl⟩
        refine gj_mem eC1 ?_
        have f2 : C1 (70) = .inr (5, [.int (1), .ref (71), .int (nI sg), .int (nI li), .ref (72), .int (nI nl), .ref (73), .int (nI ap), .int (nI ns), .ref (74), .ref (75), .ref (76), .ref (77), .ref (78), .ref (79), .ref (80), .ref (81), .ref (82), .ref (83), .ref (84), .int (nI dy), .ref (85), .ref (86), .ref (87), .ref (88), .ref (89), .ref (90)]) := by rw [eC1]; exact va_up_self _ _ _
        have f3 : C1 (75) = .inl (0, 20, .inl zo) := by rw [eC1, va_up_ne _ _ (by omega)]; exact m75
        have f4 : C1 (76) = .inl (0, 20, .inl gr) := by rw [eC1, va_up_ne _ _ (by omega)]; exact m76
        have f5 : C1 (77) = .inl (0, 20, .inl vo) := by rw [eC1, va_up_ne _ _ (by omega)]; exact m77
        have f6 : C1 (78) = .inl (0, 20, .inl se) := by rw [eC1, va_up_ne _ _ (by omega)]; exact m78
        have f7 : C1 (79) = .inl (0, 20, .inl pr) := by rw [eC1, va_up_ne _ _ (by omega)]; exact m79
        have f8 : C1 (80) = .inl (0, 20, .inl le) := by rw [eC1, va_up_ne _ _ (by omega)]; exact m80
        refine gj_aload_n d_Mo_shipment_52 rfl ?_
        refine gj_get d_Mo_shipment_53 gf_Mo_7 f2 rfl ?_
        refine gj_if_eq (tgt := 61) d_Mo_shipment_56 (by decide) (fun h56 => absurd h56 (by decide)) (fun h56 => ?_)
        refine gj_kc (v := 0) d_Mo_shipment_59 (by decide) ?_
        refine gj_iret rfl (Nat.zero_le _) (Nat.zero_le _) d_Mo_shipment_60 ?_
        exact ⟨rfl, rfl, f2, fun y c0 => by show C1 y = C y; rw [eC1, va_up_ne _ _ (by assumption)]⟩
    · refine gj_callS (as := [.int (g), .int (1), .int (100000)]) (rest := [.ref (70)]) (K1 := 0) (N1 := 0) d_Mo_shipment_15 mo_Mo_not gw_687 gw_688 gw_25 pl_Mo_not (Nat.le_of_ble_eq_true rfl) (Nat.le_of_ble_eq_true rfl) (Nat.zero_le _) (Nat.zero_le _) (c_Mo_not (g) (1) (100000)) (fun E n' C' _ h => by cases h) (fun v n' C' _ h => ?_)
      cases h
      refine gj_top (y := 1) (pm_nt1 a15) ?_
      refine gj_if_ne (tgt := 31) d_Mo_shipment_18 (by decide) (fun h18 => ?_) (fun h18 => absurd h18 (by decide))
      refine gj_kc (v := 1) d_Mo_shipment_31 (by decide) ?_
      refine gj_goto (tgt := 49) d_Mo_shipment_32 (by decide) ?_
      refine gj_put d_Mo_shipment_49 gp_Mo_7 m70 (Nat.le_of_ble_eq_true rfl) (fun _ => rfl) (fun _ => rfl) ?_
      obtain ⟨C9, eC9⟩ : ∃ Z0, Z0 = va_up C (70) (.inr (5, [.int (1), .ref (71), .int (nI sg), .int (nI li), .ref (72), .int (nI nl), .ref (73), .int (nI ap), .int (nI ns), .ref (74), .ref (75), .ref (76), .ref (77), .ref (78), .ref (79), .ref (80), .ref (81), .ref (82), .ref (83), .ref (84), .int (nI dy), .ref (85), .ref (86), .ref (87), .ref (88), .ref (89), .ref (90)])) := ⟨_, rfl⟩
      refine gj_mem eC9 ?_
      have f10 : C9 (70) = .inr (5, [.int (1), .ref (71), .int (nI sg), .int (nI li), .ref (72), .int (nI nl), .ref (73), .int (nI ap), .int (nI ns), .ref (74), .ref (75), .ref (76), .ref (77), .ref (78), .ref (79), .ref (80), .ref (81), .ref (82), .ref (83), .ref (84), .int (nI dy), .ref (85), .ref (86), .ref (87), .ref (88), .ref (89), .ref (90)]) := by rw [eC9]; exact va_up_self _ _ _
      have f11 : C9 (75) = .inl (0, 20, .inl zo) := by rw [eC9, va_up_ne _ _ (by omega)]; exact m75
      have f12 : C9 (76) = .inl (0, 20, .inl gr) := by rw [eC9, va_up_ne _ _ (by omega)]; exact m76
      have f13 : C9 (77) = .inl (0, 20, .inl vo) := by rw [eC9, va_up_ne _ _ (by omega)]; exact m77
      have f14 : C9 (78) = .inl (0, 20, .inl se) := by rw [eC9, va_up_ne _ _ (by omega)]; exact m78
      have f15 : C9 (79) = .inl (0, 20, .inl pr) := by rw [eC9, va_up_ne _ _ (by omega)]; exact m79
      have f16 : C9 (80) = .inl (0, 20, .inl le) := by rw [eC9, va_up_ne _ _ (by omega)]; exact m80
      refine gj_aload_n d_Mo_shipment_52 rfl ?_
      refine gj_get d_Mo_shipment_53 gf_Mo_7 f10 rfl ?_
      refine gj_if_eq (tgt := 61) d_Mo_shipment_56 (by decide) (fun h56 => absurd h56 (by decide)) (fun h56 => ?_)
      refine gj_kc (v := 0) d_Mo_shipment_59 (by decide) ?_
      refine gj_iret rfl (Nat.zero_le _) (Nat.zero_le _) d_Mo_shipment_60 ?_
      exact ⟨rfl, rfl, f10, fun y c0 => by show C9 y = C y; rw [eC9, va_up_ne _ _ (by assumption)]⟩
  · refine gj_callS (as := [.int (z), .int (0), .int (9)]) (rest := [.ref (70)]) (K1 := 0) (N1 := 0) d_Mo_shipment_5 mo_Mo_not gw_687 gw_688 gw_25 pl_Mo_not (Nat.le_of_ble_eq_true rfl) (Nat.le_of_ble_eq_true rfl) (Nat.zero_le _) (Nat.zero_le _) (c_Mo_not (z) (0) (9)) (fun E n' C' _ h => by cases h) (fun v n' C' _ h => ?_)
    cases h
    refine gj_top (y := 1) (pm_nt1 a5) ?_
    refine gj_if_ne (tgt := 31) d_Mo_shipment_8 (by decide) (fun h8 => ?_) (fun h8 => absurd h8 (by decide))
    refine gj_kc (v := 1) d_Mo_shipment_31 (by decide) ?_
    refine gj_goto (tgt := 49) d_Mo_shipment_32 (by decide) ?_
    refine gj_put d_Mo_shipment_49 gp_Mo_7 m70 (Nat.le_of_ble_eq_true rfl) (fun _ => rfl) (fun _ => rfl) ?_
    obtain ⟨C17, eC17⟩ : ∃ Z0, Z0 = va_up C (70) (.inr (5, [.int (1), .ref (71), .int (nI sg), .int (nI li), .ref (72), .int (nI nl), .ref (73), .int (nI ap), .int (nI ns), .ref (74), .ref (75), .ref (76), .ref (77), .ref (78), .ref (79), .ref (80), .ref (81), .ref (82), .ref (83), .ref (84), .int (nI dy), .ref (85), .ref (86), .ref (87), .ref (88), .ref (89), .ref (90)])) := ⟨_, rfl⟩
    refine gj_mem eC17 ?_
    have f18 : C17 (70) = .inr (5, [.int (1), .ref (71), .int (nI sg), .int (nI li), .ref (72), .int (nI nl), .ref (73), .int (nI ap), .int (nI ns), .ref (74), .ref (75), .ref (76), .ref (77), .ref (78), .ref (79), .ref (80), .ref (81), .ref (82), .ref (83), .ref (84), .int (nI dy), .ref (85), .ref (86), .ref (87), .ref (88), .ref (89), .ref (90)]) := by rw [eC17]; exact va_up_self _ _ _
    have f19 : C17 (75) = .inl (0, 20, .inl zo) := by rw [eC17, va_up_ne _ _ (by omega)]; exact m75
    have f20 : C17 (76) = .inl (0, 20, .inl gr) := by rw [eC17, va_up_ne _ _ (by omega)]; exact m76
    have f21 : C17 (77) = .inl (0, 20, .inl vo) := by rw [eC17, va_up_ne _ _ (by omega)]; exact m77
    have f22 : C17 (78) = .inl (0, 20, .inl se) := by rw [eC17, va_up_ne _ _ (by omega)]; exact m78
    have f23 : C17 (79) = .inl (0, 20, .inl pr) := by rw [eC17, va_up_ne _ _ (by omega)]; exact m79
    have f24 : C17 (80) = .inl (0, 20, .inl le) := by rw [eC17, va_up_ne _ _ (by omega)]; exact m80
    refine gj_aload_n d_Mo_shipment_52 rfl ?_
    refine gj_get d_Mo_shipment_53 gf_Mo_7 f18 rfl ?_
    refine gj_if_eq (tgt := 61) d_Mo_shipment_56 (by decide) (fun h56 => absurd h56 (by decide)) (fun h56 => ?_)
    refine gj_kc (v := 0) d_Mo_shipment_59 (by decide) ?_
    refine gj_iret rfl (Nat.zero_le _) (Nat.zero_le _) d_Mo_shipment_60 ?_
    exact ⟨rfl, rfl, f18, fun y c0 => by show C17 y = C y; rw [eC17, va_up_ne _ _ (by assumption)]⟩
set_option maxHeartbeats 2000000 in
theorem c_Mo_shipment_x2 {d K N n sg li nl ap ns dy : Nat} {tc : Int32} {C : Nat → va_E} {zo gr vo se pr le : Nat → Int32} (m70 : C (70) = .inr (5, [.int (tc), .ref (71), .int (nI sg), .int (nI li), .ref (72), .int (nI nl), .ref (73), .int (nI ap), .int (nI ns), .ref (74), .ref (75), .ref (76), .ref (77), .ref (78), .ref (79), .ref (80), .ref (81), .ref (82), .ref (83), .ref (84), .int (nI dy), .ref (85), .ref (86), .ref (87), .ref (88), .ref (89), .ref (90)])) (m75 : C (75) = .inl (0, 20, .inl zo)) (m76 : C (76) = .inl (0, 20, .inl gr)) (m77 : C (77) = .inl (0, 20, .inl vo)) (m78 : C (78) = .inl (0, 20, .inl se)) (m79 : C (79) = .inl (0, 20, .inl pr)) (m80 : C (80) = .inl (0, 20, .inl le)) {z g v : Int32} (h : (0 ≤ z ∧ z ≤ 9) ∧ (1 ≤ g ∧ g ≤ 100000) ∧ (0 ≤ v ∧ v ≤ 100000000)) (h20 : ns ≤ 20) (hn : ¬ ns < 20) : gj_G md_Mo_shipment (d + 1) K N 0 0 0 [(0, .ref (70)), (1, .int (z)), (2, .int (g)), (3, .int (v))] [] (n) C (fun r => r.1 = gj_iv 0 ∧ r.2.1 = n ∧ r.2.2 70 = .inr (5, [.int (2), .ref (71), .int (nI sg), .int (nI li), .ref (72), .int (nI nl), .ref (73), .int (nI ap), .int (nI ns), .ref (74), .ref (75), .ref (76), .ref (77), .ref (78), .ref (79), .ref (80), .ref (81), .ref (82), .ref (83), .ref (84), .int (nI dy), .ref (85), .ref (86), .ref (87), .ref (88), .ref (89), .ref (90)]) ∧ ∀ y, y ≠ 70 → r.2.2 y = C y) := by
  refine gj_aload_n d_Mo_shipment_0 rfl ?_
  refine gj_iload_n d_Mo_shipment_1 rfl ?_
  refine gj_kc (v := 0) d_Mo_shipment_2 (by decide) ?_
  refine gj_kb (v := 9) d_Mo_shipment_3 (by decide) ?_
  refine gj_callS (as := [.int (z), .int (0), .int (9)]) (rest := [.ref (70)]) (K1 := 0) (N1 := 0) d_Mo_shipment_5 mo_Mo_not gw_687 gw_688 gw_25 pl_Mo_not (Nat.le_of_ble_eq_true rfl) (Nat.le_of_ble_eq_true rfl) (Nat.zero_le _) (Nat.zero_le _) (c_Mo_not (z) (0) (9)) (fun E n' C' _ h => by cases h) (fun v n' C' _ h => ?_)
  cases h
  refine gj_top (y := 0) (pm_nt0 h.1) ?_
  refine gj_if_ne (tgt := 31) d_Mo_shipment_8 (by decide) (fun h8 => absurd (by decide) h8) (fun h8 => ?_)
  refine gj_iload_n d_Mo_shipment_11 rfl ?_
  refine gj_kc (v := 1) d_Mo_shipment_12 (by decide) ?_
  refine gj_ldc d_Mo_shipment_13 gw_706 ?_
  refine gj_callS (as := [.int (g), .int (1), .int (100000)]) (rest := [.ref (70)]) (K1 := 0) (N1 := 0) d_Mo_shipment_15 mo_Mo_not gw_687 gw_688 gw_25 pl_Mo_not (Nat.le_of_ble_eq_true rfl) (Nat.le_of_ble_eq_true rfl) (Nat.zero_le _) (Nat.zero_le _) (c_Mo_not (g) (1) (100000)) (fun E n' C' _ h => by cases h) (fun v n' C' _ h => ?_)
  cases h
  refine gj_top (y := 0) (pm_nt0 h.2.1) ?_
  refine gj_if_ne (tgt := 31) d_Mo_shipment_18 (by decide) (fun h18 => absurd (by decide) h18) (fun h18 => ?_)
  refine gj_iload_n d_Mo_shipment_21 rfl ?_
  refine gj_kc (v := 0) d_Mo_shipment_22 (by decide) ?_
  refine gj_ldc d_Mo_shipment_23 gw_720 ?_
  refine gj_callS (as := [.int (v), .int (0), .int (100000000)]) (rest := [.ref (70)]) (K1 := 0) (N1 := 0) d_Mo_shipment_25 mo_Mo_not gw_687 gw_688 gw_25 pl_Mo_not (Nat.le_of_ble_eq_true rfl) (Nat.le_of_ble_eq_true rfl) (Nat.zero_le _) (Nat.zero_le _) (c_Mo_not (v) (0) (100000000)) (fun E n' C' _ h => by cases h) (fun v n' C' _ h => ?_)
  cases h
  refine gj_top (y := 0) (pm_nt0 h.2.2) ?_
  refine gj_if_eq (tgt := 35) d_Mo_shipment_28 (by decide) (fun h28 => ?_) (fun h28 => absurd (by decide) h28)
  refine gj_aload_n d_Mo_shipment_35 rfl ?_
  refine gj_get d_Mo_shipment_36 gf_Mo_35 m70 rfl ?_
  refine gj_kb (v := 20) d_Mo_shipment_39 (by decide) ?_
  refine gj_icmp_ne (tgt := 48) d_Mo_shipment_41 (by decide) (fun h41 => by have m41 : ¬ (ns = 20) := fun q => h41 ((nI_eq (a := ns) (b := 20) (by omega) (by omega)).mpr q); exact absurd (show ns = 20 from by omega) m41) (fun h41 => ?_)
  have m41 : ns = 20 := (nI_eq (a := ns) (b := 20) (by omega) (by omega)).mp h41
  refine gj_kc (v := 2) d_Mo_shipment_44 (by decide) ?_
  refine gj_goto (tgt := 49) d_Mo_shipment_45 (by decide) ?_
  refine gj_put d_Mo_shipment_49 gp_Mo_7 m70 (Nat.le_of_ble_eq_true rfl) (fun _ => rfl) (fun _ => rfl) ?_
  obtain ⟨C1, eC1⟩ : ∃ Z0, Z0 = va_up C (70) (.inr (5, [.int (2), .ref (71), .int (nI sg), .int (nI li), .ref (72), .int (nI nl), .ref (73), .int (nI ap), .int (nI ns), .ref (74), .ref (75), .ref (76), .ref (77), .ref (78), .ref (79), .ref (80), .ref (81), .ref (82), .ref (83), .ref (84), .int (nI dy), .ref (85), .ref (86), .ref (87), .ref (88), .ref (89), .ref (90)])) := ⟨_, rfl⟩
  refine gj_mem eC1 ?_
  have f2 : C1 (70) = .inr (5, [.int (2), .ref (71), .int (nI sg), .int (nI li), .ref (72), .int (nI nl), .ref (73), .int (nI ap), .int (nI ns), .ref (74), .ref (75), .ref (76), .ref (77), .ref (78), .ref (79), .ref (80), .ref (81), .ref (82), .ref (83), .ref (84), .int (nI dy), .ref (85), .ref (86), .ref (87), .ref (88), .ref (89), .ref (90)]) := by rw [eC1]; exact va_up_self _ _ _
  have f3 : C1 (75) = .inl (0, 20, .inl zo) := by rw [eC1, va_up_ne _ _ (by omega)]; exact m75
  have f4 : C1 (76) = .inl (0, 20, .inl gr) := by rw [eC1, va_up_ne _ _ (by omega)]; exact m76
  have f5 : C1 (77) = .inl (0, 20, .inl vo) := by rw [eC1, va_up_ne _ _ (by omega)]; exact m77
  have f6 : C1 (78) = .inl (0, 20, .inl se) := by rw [eC1, va_up_ne _ _ (by omega)]; exact m78
  have f7 : C1 (79) = .inl (0, 20, .inl pr) := by rw [eC1, va_up_ne _ _ (by omega)]; exact m79
  have f8 : C1 (80) = .inl (0, 20, .inl le) := by rw [eC1, va_up_ne _ _ (by omega)]; exact m80
  refine gj_aload_n d_Mo_shipment_52 rfl ?_
  refine gj_get d_Mo_shipment_53 gf_Mo_7 f2 rfl ?_
  refine gj_if_eq (tgt := 61) d_Mo_shipment_56 (by decide) (fun h56 => absurd h56 (by decide)) (fun h56 => ?_)
  refine gj_kc (v := 0) d_Mo_shipment_59 (by decide) ?_
  refine gj_iret rfl (Nat.zero_le _) (Nat.zero_le _) d_Mo_shipment_60 ?_
  exact ⟨rfl, rfl, f2, fun y c0 => by show C1 y = C y; rw [eC1, va_up_ne _ _ (by assumption)]⟩
set_option maxHeartbeats 2000000 in
theorem c_Mo_shipment {d K N n sg li nl ap ns dy : Nat} {tc : Int32} {C : Nat → va_E} {zo gr vo se pr le : Nat → Int32} (m70 : C (70) = .inr (5, [.int (tc), .ref (71), .int (nI sg), .int (nI li), .ref (72), .int (nI nl), .ref (73), .int (nI ap), .int (nI ns), .ref (74), .ref (75), .ref (76), .ref (77), .ref (78), .ref (79), .ref (80), .ref (81), .ref (82), .ref (83), .ref (84), .int (nI dy), .ref (85), .ref (86), .ref (87), .ref (88), .ref (89), .ref (90)])) (m75 : C (75) = .inl (0, 20, .inl zo)) (m76 : C (76) = .inl (0, 20, .inl gr)) (m77 : C (77) = .inl (0, 20, .inl vo)) (m78 : C (78) = .inl (0, 20, .inl se)) (m79 : C (79) = .inl (0, 20, .inl pr)) (m80 : C (80) = .inl (0, 20, .inl le)) {z g v : Int32} (h : (0 ≤ z ∧ z ≤ 9) ∧ (1 ≤ g ∧ g ≤ 100000) ∧ (0 ≤ v ∧ v ≤ 100000000)) (hn : ns < 20) : gj_G md_Mo_shipment (d + 1) K N 0 0 0 [(0, .ref (70)), (1, .int (z)), (2, .int (g)), (3, .int (v))] [] (n) C (fun r => r.1 = gj_iv (nI ns) ∧ r.2.1 = n ∧ r.2.2 70 = .inr (5, [.int (0), .ref (71), .int (nI sg), .int (nI li), .ref (72), .int (nI nl), .ref (73), .int (nI ap), .int (nI (ns + 1)), .ref (74), .ref (75), .ref (76), .ref (77), .ref (78), .ref (79), .ref (80), .ref (81), .ref (82), .ref (83), .ref (84), .int (nI dy), .ref (85), .ref (86), .ref (87), .ref (88), .ref (89), .ref (90)]) ∧ r.2.2 75 = .inl (0, 20, .inl (upd zo ns z)) ∧ r.2.2 76 = .inl (0, 20, .inl (upd gr ns g)) ∧ r.2.2 77 = .inl (0, 20, .inl (upd vo ns v)) ∧ r.2.2 78 = .inl (0, 20, .inl (upd se ns (-1))) ∧ r.2.2 79 = .inl (0, 20, .inl (upd pr ns (-1))) ∧ r.2.2 80 = .inl (0, 20, .inl (upd le ns (-1))) ∧ ∀ y, y ≠ 70 → y ≠ 75 → y ≠ 76 → y ≠ 77 → y ≠ 78 → y ≠ 79 → y ≠ 80 → r.2.2 y = C y) := by
  refine gj_aload_n d_Mo_shipment_0 rfl ?_
  refine gj_iload_n d_Mo_shipment_1 rfl ?_
  refine gj_kc (v := 0) d_Mo_shipment_2 (by decide) ?_
  refine gj_kb (v := 9) d_Mo_shipment_3 (by decide) ?_
  refine gj_callS (as := [.int (z), .int (0), .int (9)]) (rest := [.ref (70)]) (K1 := 0) (N1 := 0) d_Mo_shipment_5 mo_Mo_not gw_687 gw_688 gw_25 pl_Mo_not (Nat.le_of_ble_eq_true rfl) (Nat.le_of_ble_eq_true rfl) (Nat.zero_le _) (Nat.zero_le _) (c_Mo_not (z) (0) (9)) (fun E n' C' _ h => by cases h) (fun v n' C' _ h => ?_)
  cases h
  refine gj_top (y := 0) (pm_nt0 h.1) ?_
  refine gj_if_ne (tgt := 31) d_Mo_shipment_8 (by decide) (fun h8 => absurd (by decide) h8) (fun h8 => ?_)
  refine gj_iload_n d_Mo_shipment_11 rfl ?_
  refine gj_kc (v := 1) d_Mo_shipment_12 (by decide) ?_
  refine gj_ldc d_Mo_shipment_13 gw_706 ?_
  refine gj_callS (as := [.int (g), .int (1), .int (100000)]) (rest := [.ref (70)]) (K1 := 0) (N1 := 0) d_Mo_shipment_15 mo_Mo_not gw_687 gw_688 gw_25 pl_Mo_not (Nat.le_of_ble_eq_true rfl) (Nat.le_of_ble_eq_true rfl) (Nat.zero_le _) (Nat.zero_le _) (c_Mo_not (g) (1) (100000)) (fun E n' C' _ h => by cases h) (fun v n' C' _ h => ?_)
  cases h
  refine gj_top (y := 0) (pm_nt0 h.2.1) ?_
  refine gj_if_ne (tgt := 31) d_Mo_shipment_18 (by decide) (fun h18 => absurd (by decide) h18) (fun h18 => ?_)
  refine gj_iload_n d_Mo_shipment_21 rfl ?_
  refine gj_kc (v := 0) d_Mo_shipment_22 (by decide) ?_
  refine gj_ldc d_Mo_shipment_23 gw_720 ?_
  refine gj_callS (as := [.int (v), .int (0), .int (100000000)]) (rest := [.ref (70)]) (K1 := 0) (N1 := 0) d_Mo_shipment_25 mo_Mo_not gw_687 gw_688 gw_25 pl_Mo_not (Nat.le_of_ble_eq_true rfl) (Nat.le_of_ble_eq_true rfl) (Nat.zero_le _) (Nat.zero_le _) (c_Mo_not (v) (0) (100000000)) (fun E n' C' _ h => by cases h) (fun v n' C' _ h => ?_)
  cases h
  refine gj_top (y := 0) (pm_nt0 h.2.2) ?_
  refine gj_if_eq (tgt := 35) d_Mo_shipment_28 (by decide) (fun h28 => ?_) (fun h28 => absurd (by decide) h28)
  refine gj_aload_n d_Mo_shipment_35 rfl ?_
  refine gj_get d_Mo_shipment_36 gf_Mo_35 m70 rfl ?_
  refine gj_kb (v := 20) d_Mo_shipment_39 (by decide) ?_
  refine gj_icmp_ne (tgt := 48) d_Mo_shipment_41 (by decide) (fun h41 => ?_) (fun h41 => by have m41 : ns = 20 := (nI_eq (a := ns) (b := 20) (by omega) (by omega)).mp h41; exact absurd m41 (show ¬ (ns = 20) from by omega))
  have m41 : ¬ (ns = 20) := fun q => h41 ((nI_eq (a := ns) (b := 20) (by omega) (by omega)).mpr q)
  refine gj_kc (v := 0) d_Mo_shipment_48 (by decide) ?_
  refine gj_put d_Mo_shipment_49 gp_Mo_7 m70 (Nat.le_of_ble_eq_true rfl) (fun _ => rfl) (fun _ => rfl) ?_
  obtain ⟨C1, eC1⟩ : ∃ Z0, Z0 = va_up C (70) (.inr (5, [.int (0), .ref (71), .int (nI sg), .int (nI li), .ref (72), .int (nI nl), .ref (73), .int (nI ap), .int (nI ns), .ref (74), .ref (75), .ref (76), .ref (77), .ref (78), .ref (79), .ref (80), .ref (81), .ref (82), .ref (83), .ref (84), .int (nI dy), .ref (85), .ref (86), .ref (87), .ref (88), .ref (89), .ref (90)])) := ⟨_, rfl⟩
  refine gj_mem eC1 ?_
  have f2 : C1 (70) = .inr (5, [.int (0), .ref (71), .int (nI sg), .int (nI li), .ref (72), .int (nI nl), .ref (73), .int (nI ap), .int (nI ns), .ref (74), .ref (75), .ref (76), .ref (77), .ref (78), .ref (79), .ref (80), .ref (81), .ref (82), .ref (83), .ref (84), .int (nI dy), .ref (85), .ref (86), .ref (87), .ref (88), .ref (89), .ref (90)]) := by rw [eC1]; exact va_up_self _ _ _
  have f3 : C1 (75) = .inl (0, 20, .inl zo) := by rw [eC1, va_up_ne _ _ (by omega)]; exact m75
  have f4 : C1 (76) = .inl (0, 20, .inl gr) := by rw [eC1, va_up_ne _ _ (by omega)]; exact m76
  have f5 : C1 (77) = .inl (0, 20, .inl vo) := by rw [eC1, va_up_ne _ _ (by omega)]; exact m77
  have f6 : C1 (78) = .inl (0, 20, .inl se) := by rw [eC1, va_up_ne _ _ (by omega)]; exact m78
  have f7 : C1 (79) = .inl (0, 20, .inl pr) := by rw [eC1, va_up_ne _ _ (by omega)]; exact m79
  have f8 : C1 (80) = .inl (0, 20, .inl le) := by rw [eC1, va_up_ne _ _ (by omega)]; exact m80
  refine gj_aload_n d_Mo_shipment_52 rfl ?_
  refine gj_get d_Mo_shipment_53 gf_Mo_7 f2 rfl ?_
  refine gj_if_eq (tgt := 61) d_Mo_shipment_56 (by decide) (fun h56 => ?_) (fun h56 => absurd (by decide) h56)
  refine gj_aload_n d_Mo_shipment_61 rfl ?_
  refine gj_get d_Mo_shipment_62 gf_Mo_42 f2 rfl ?_
  refine gj_aload_n d_Mo_shipment_65 rfl ?_
  refine gj_get d_Mo_shipment_66 gf_Mo_35 f2 rfl ?_
  refine gj_iload_n d_Mo_shipment_69 rfl ?_
  refine gj_iast d_Mo_shipment_70 f3 rfl (vp_in_nI (by omega) (by decide)) ?_
  obtain ⟨C9, eC9⟩ : ∃ Z0, Z0 = va_up C1 (75) (.inl (0, 20, .inl (upd zo (ns) (z)))) := ⟨_, rfl⟩
  refine gj_mem (eC9.trans (by rw [nI_clamp (by omega)])) ?_
  have f10 : C9 (70) = .inr (5, [.int (0), .ref (71), .int (nI sg), .int (nI li), .ref (72), .int (nI nl), .ref (73), .int (nI ap), .int (nI ns), .ref (74), .ref (75), .ref (76), .ref (77), .ref (78), .ref (79), .ref (80), .ref (81), .ref (82), .ref (83), .ref (84), .int (nI dy), .ref (85), .ref (86), .ref (87), .ref (88), .ref (89), .ref (90)]) := by rw [eC9, va_up_ne _ _ (by omega)]; exact f2
  have f11 : C9 (75) = .inl (0, 20, .inl (upd zo (ns) (z))) := by rw [eC9]; exact va_up_self _ _ _
  have f12 : C9 (76) = .inl (0, 20, .inl gr) := by rw [eC9, va_up_ne _ _ (by omega)]; exact f4
  have f13 : C9 (77) = .inl (0, 20, .inl vo) := by rw [eC9, va_up_ne _ _ (by omega)]; exact f5
  have f14 : C9 (78) = .inl (0, 20, .inl se) := by rw [eC9, va_up_ne _ _ (by omega)]; exact f6
  have f15 : C9 (79) = .inl (0, 20, .inl pr) := by rw [eC9, va_up_ne _ _ (by omega)]; exact f7
  have f16 : C9 (80) = .inl (0, 20, .inl le) := by rw [eC9, va_up_ne _ _ (by omega)]; exact f8
  refine gj_aload_n d_Mo_shipment_71 rfl ?_
  refine gj_get d_Mo_shipment_72 gf_Mo_45 f10 rfl ?_
  refine gj_aload_n d_Mo_shipment_75 rfl ?_
  refine gj_get d_Mo_shipment_76 gf_Mo_35 f10 rfl ?_
  refine gj_iload_n d_Mo_shipment_79 rfl ?_
  refine gj_iast d_Mo_shipment_80 f12 rfl (vp_in_nI (by omega) (by decide)) ?_
  obtain ⟨C17, eC17⟩ : ∃ Z0, Z0 = va_up C9 (76) (.inl (0, 20, .inl (upd gr (ns) (g)))) := ⟨_, rfl⟩
  refine gj_mem (eC17.trans (by rw [nI_clamp (by omega)])) ?_
  have f18 : C17 (70) = .inr (5, [.int (0), .ref (71), .int (nI sg), .int (nI li), .ref (72), .int (nI nl), .ref (73), .int (nI ap), .int (nI ns), .ref (74), .ref (75), .ref (76), .ref (77), .ref (78), .ref (79), .ref (80), .ref (81), .ref (82), .ref (83), .ref (84), .int (nI dy), .ref (85), .ref (86), .ref (87), .ref (88), .ref (89), .ref (90)]) := by rw [eC17, va_up_ne _ _ (by omega)]; exact f10
  have f19 : C17 (75) = .inl (0, 20, .inl (upd zo (ns) (z))) := by rw [eC17, va_up_ne _ _ (by omega)]; exact f11
  have f20 : C17 (76) = .inl (0, 20, .inl (upd gr (ns) (g))) := by rw [eC17]; exact va_up_self _ _ _
  have f21 : C17 (77) = .inl (0, 20, .inl vo) := by rw [eC17, va_up_ne _ _ (by omega)]; exact f13
  have f22 : C17 (78) = .inl (0, 20, .inl se) := by rw [eC17, va_up_ne _ _ (by omega)]; exact f14
  have f23 : C17 (79) = .inl (0, 20, .inl pr) := by rw [eC17, va_up_ne _ _ (by omega)]; exact f15
  have f24 : C17 (80) = .inl (0, 20, .inl le) := by rw [eC17, va_up_ne _ _ (by omega)]; exact f16
  refine gj_aload_n d_Mo_shipment_81 rfl ?_
  refine gj_get d_Mo_shipment_82 gf_Mo_48 f18 rfl ?_
  refine gj_aload_n d_Mo_shipment_85 rfl ?_
  refine gj_get d_Mo_shipment_86 gf_Mo_35 f18 rfl ?_
  refine gj_iload_n d_Mo_shipment_89 rfl ?_
  refine gj_iast d_Mo_shipment_90 f21 rfl (vp_in_nI (by omega) (by decide)) ?_
  obtain ⟨C25, eC25⟩ : ∃ Z0, Z0 = va_up C17 (77) (.inl (0, 20, .inl (upd vo (ns) (v)))) := ⟨_, rfl⟩
  refine gj_mem (eC25.trans (by rw [nI_clamp (by omega)])) ?_
  have f26 : C25 (70) = .inr (5, [.int (0), .ref (71), .int (nI sg), .int (nI li), .ref (72), .int (nI nl), .ref (73), .int (nI ap), .int (nI ns), .ref (74), .ref (75), .ref (76), .ref (77), .ref (78), .ref (79), .ref (80), .ref (81), .ref (82), .ref (83), .ref (84), .int (nI dy), .ref (85), .ref (86), .ref (87), .ref (88), .ref (89), .ref (90)]) := by rw [eC25, va_up_ne _ _ (by omega)]; exact f18
  have f27 : C25 (75) = .inl (0, 20, .inl (upd zo (ns) (z))) := by rw [eC25, va_up_ne _ _ (by omega)]; exact f19
  have f28 : C25 (76) = .inl (0, 20, .inl (upd gr (ns) (g))) := by rw [eC25, va_up_ne _ _ (by omega)]; exact f20
  have f29 : C25 (77) = .inl (0, 20, .inl (upd vo (ns) (v))) := by rw [eC25]; exact va_up_self _ _ _
  have f30 : C25 (78) = .inl (0, 20, .inl se) := by rw [eC25, va_up_ne _ _ (by omega)]; exact f22
  have f31 : C25 (79) = .inl (0, 20, .inl pr) := by rw [eC25, va_up_ne _ _ (by omega)]; exact f23
  have f32 : C25 (80) = .inl (0, 20, .inl le) := by rw [eC25, va_up_ne _ _ (by omega)]; exact f24
  refine gj_aload_n d_Mo_shipment_91 rfl ?_
  refine gj_get d_Mo_shipment_92 gf_Mo_51 f26 rfl ?_
  refine gj_aload_n d_Mo_shipment_95 rfl ?_
  refine gj_get d_Mo_shipment_96 gf_Mo_35 f26 rfl ?_
  refine gj_kc (v := (-1)) d_Mo_shipment_99 (by decide) ?_
  refine gj_iast d_Mo_shipment_100 f30 rfl (vp_in_nI (by omega) (by decide)) ?_
  obtain ⟨C33, eC33⟩ : ∃ Z0, Z0 = va_up C25 (78) (.inl (0, 20, .inl (upd se (ns) (-1)))) := ⟨_, rfl⟩
  refine gj_mem (eC33.trans (by rw [nI_clamp (by omega)])) ?_
  have f34 : C33 (70) = .inr (5, [.int (0), .ref (71), .int (nI sg), .int (nI li), .ref (72), .int (nI nl), .ref (73), .int (nI ap), .int (nI ns), .ref (74), .ref (75), .ref (76), .ref (77), .ref (78), .ref (79), .ref (80), .ref (81), .ref (82), .ref (83), .ref (84), .int (nI dy), .ref (85), .ref (86), .ref (87), .ref (88), .ref (89), .ref (90)]) := by rw [eC33, va_up_ne _ _ (by omega)]; exact f26
  have f35 : C33 (75) = .inl (0, 20, .inl (upd zo (ns) (z))) := by rw [eC33, va_up_ne _ _ (by omega)]; exact f27
  have f36 : C33 (76) = .inl (0, 20, .inl (upd gr (ns) (g))) := by rw [eC33, va_up_ne _ _ (by omega)]; exact f28
  have f37 : C33 (77) = .inl (0, 20, .inl (upd vo (ns) (v))) := by rw [eC33, va_up_ne _ _ (by omega)]; exact f29
  have f38 : C33 (78) = .inl (0, 20, .inl (upd se (ns) (-1))) := by rw [eC33]; exact va_up_self _ _ _
  have f39 : C33 (79) = .inl (0, 20, .inl pr) := by rw [eC33, va_up_ne _ _ (by omega)]; exact f31
  have f40 : C33 (80) = .inl (0, 20, .inl le) := by rw [eC33, va_up_ne _ _ (by omega)]; exact f32
  refine gj_aload_n d_Mo_shipment_101 rfl ?_
  refine gj_get d_Mo_shipment_102 gf_Mo_54 f34 rfl ?_
  refine gj_aload_n d_Mo_shipment_105 rfl ?_
  refine gj_get d_Mo_shipment_106 gf_Mo_35 f34 rfl ?_
  refine gj_kc (v := (-1)) d_Mo_shipment_109 (by decide) ?_
  refine gj_iast d_Mo_shipment_110 f39 rfl (vp_in_nI (by omega) (by decide)) ?_
  obtain ⟨C41, eC41⟩ : ∃ Z0, Z0 = va_up C33 (79) (.inl (0, 20, .inl (upd pr (ns) (-1)))) := ⟨_, rfl⟩
  refine gj_mem (eC41.trans (by rw [nI_clamp (by omega)])) ?_
  have f42 : C41 (70) = .inr (5, [.int (0), .ref (71), .int (nI sg), .int (nI li), .ref (72), .int (nI nl), .ref (73), .int (nI ap), .int (nI ns), .ref (74), .ref (75), .ref (76), .ref (77), .ref (78), .ref (79), .ref (80), .ref (81), .ref (82), .ref (83), .ref (84), .int (nI dy), .ref (85), .ref (86), .ref (87), .ref (88), .ref (89), .ref (90)]) := by rw [eC41, va_up_ne _ _ (by omega)]; exact f34
  have f43 : C41 (75) = .inl (0, 20, .inl (upd zo (ns) (z))) := by rw [eC41, va_up_ne _ _ (by omega)]; exact f35
  have f44 : C41 (76) = .inl (0, 20, .inl (upd gr (ns) (g))) := by rw [eC41, va_up_ne _ _ (by omega)]; exact f36
  have f45 : C41 (77) = .inl (0, 20, .inl (upd vo (ns) (v))) := by rw [eC41, va_up_ne _ _ (by omega)]; exact f37
  have f46 : C41 (78) = .inl (0, 20, .inl (upd se (ns) (-1))) := by rw [eC41, va_up_ne _ _ (by omega)]; exact f38
  have f47 : C41 (79) = .inl (0, 20, .inl (upd pr (ns) (-1))) := by rw [eC41]; exact va_up_self _ _ _
  have f48 : C41 (80) = .inl (0, 20, .inl le) := by rw [eC41, va_up_ne _ _ (by omega)]; exact f40
  refine gj_aload_n d_Mo_shipment_111 rfl ?_
  refine gj_get d_Mo_shipment_112 gf_Mo_57 f42 rfl ?_
  refine gj_aload_n d_Mo_shipment_115 rfl ?_
  refine gj_get d_Mo_shipment_116 gf_Mo_35 f42 rfl ?_
  refine gj_kc (v := (-1)) d_Mo_shipment_119 (by decide) ?_
  refine gj_iast d_Mo_shipment_120 f48 rfl (vp_in_nI (by omega) (by decide)) ?_
  obtain ⟨C49, eC49⟩ : ∃ Z0, Z0 = va_up C41 (80) (.inl (0, 20, .inl (upd le (ns) (-1)))) := ⟨_, rfl⟩
  refine gj_mem (eC49.trans (by rw [nI_clamp (by omega)])) ?_
  have f50 : C49 (70) = .inr (5, [.int (0), .ref (71), .int (nI sg), .int (nI li), .ref (72), .int (nI nl), .ref (73), .int (nI ap), .int (nI ns), .ref (74), .ref (75), .ref (76), .ref (77), .ref (78), .ref (79), .ref (80), .ref (81), .ref (82), .ref (83), .ref (84), .int (nI dy), .ref (85), .ref (86), .ref (87), .ref (88), .ref (89), .ref (90)]) := by rw [eC49, va_up_ne _ _ (by omega)]; exact f42
  have f51 : C49 (75) = .inl (0, 20, .inl (upd zo (ns) (z))) := by rw [eC49, va_up_ne _ _ (by omega)]; exact f43
  have f52 : C49 (76) = .inl (0, 20, .inl (upd gr (ns) (g))) := by rw [eC49, va_up_ne _ _ (by omega)]; exact f44
  have f53 : C49 (77) = .inl (0, 20, .inl (upd vo (ns) (v))) := by rw [eC49, va_up_ne _ _ (by omega)]; exact f45
  have f54 : C49 (78) = .inl (0, 20, .inl (upd se (ns) (-1))) := by rw [eC49, va_up_ne _ _ (by omega)]; exact f46
  have f55 : C49 (79) = .inl (0, 20, .inl (upd pr (ns) (-1))) := by rw [eC49, va_up_ne _ _ (by omega)]; exact f47
  have f56 : C49 (80) = .inl (0, 20, .inl (upd le (ns) (-1))) := by rw [eC49]; exact va_up_self _ _ _
  refine gj_aload_n d_Mo_shipment_121 rfl ?_
  refine gj_dup d_Mo_shipment_122 rfl ?_
  refine gj_get d_Mo_shipment_123 gf_Mo_35 f50 rfl ?_
  refine gj_kc (v := 1) d_Mo_shipment_126 (by decide) ?_
  refine gj_iadd d_Mo_shipment_127 ?_
  refine gj_top (y := nI (ns + 1)) (nI_add (ns) (1)) ?_
  refine gj_put d_Mo_shipment_128 gp_Mo_35 f50 (Nat.le_of_ble_eq_true rfl) (fun _ => rfl) (fun _ => rfl) ?_
  obtain ⟨C57, eC57⟩ : ∃ Z0, Z0 = va_up C49 (70) (.inr (5, [.int (0), .ref (71), .int (nI sg), .int (nI li), .ref (72), .int (nI nl), .ref (73), .int (nI ap), .int (nI (ns + 1)), .ref (74), .ref (75), .ref (76), .ref (77), .ref (78), .ref (79), .ref (80), .ref (81), .ref (82), .ref (83), .ref (84), .int (nI dy), .ref (85), .ref (86), .ref (87), .ref (88), .ref (89), .ref (90)])) := ⟨_, rfl⟩
  refine gj_mem eC57 ?_
  have f58 : C57 (70) = .inr (5, [.int (0), .ref (71), .int (nI sg), .int (nI li), .ref (72), .int (nI nl), .ref (73), .int (nI ap), .int (nI (ns + 1)), .ref (74), .ref (75), .ref (76), .ref (77), .ref (78), .ref (79), .ref (80), .ref (81), .ref (82), .ref (83), .ref (84), .int (nI dy), .ref (85), .ref (86), .ref (87), .ref (88), .ref (89), .ref (90)]) := by rw [eC57]; exact va_up_self _ _ _
  have f59 : C57 (75) = .inl (0, 20, .inl (upd zo (ns) (z))) := by rw [eC57, va_up_ne _ _ (by omega)]; exact f51
  have f60 : C57 (76) = .inl (0, 20, .inl (upd gr (ns) (g))) := by rw [eC57, va_up_ne _ _ (by omega)]; exact f52
  have f61 : C57 (77) = .inl (0, 20, .inl (upd vo (ns) (v))) := by rw [eC57, va_up_ne _ _ (by omega)]; exact f53
  have f62 : C57 (78) = .inl (0, 20, .inl (upd se (ns) (-1))) := by rw [eC57, va_up_ne _ _ (by omega)]; exact f54
  have f63 : C57 (79) = .inl (0, 20, .inl (upd pr (ns) (-1))) := by rw [eC57, va_up_ne _ _ (by omega)]; exact f55
  have f64 : C57 (80) = .inl (0, 20, .inl (upd le (ns) (-1))) := by rw [eC57, va_up_ne _ _ (by omega)]; exact f56
  refine gj_aload_n d_Mo_shipment_131 rfl ?_
  refine gj_get d_Mo_shipment_132 gf_Mo_35 f58 rfl ?_
  refine gj_kc (v := 1) d_Mo_shipment_135 (by decide) ?_
  refine gj_isub d_Mo_shipment_136 ?_
  refine gj_top (y := nI ns) (nI_pred ns) ?_
  refine gj_iret rfl (Nat.zero_le _) (Nat.zero_le _) d_Mo_shipment_137 ?_
  exact ⟨rfl, rfl, f58, f59, f60, f61, f62, f63, f64, fun y c0 c1 c2 c3 c4 c5 c6 => by show C57 y = C y; rw [eC57, va_up_ne _ _ (by assumption), eC49, va_up_ne _ _ (by assumption), eC41, va_up_ne _ _ (by assumption), eC33, va_up_ne _ _ (by assumption), eC25, va_up_ne _ _ (by assumption), eC17, va_up_ne _ _ (by assumption), eC9, va_up_ne _ _ (by assumption), eC1, va_up_ne _ _ (by assumption)]⟩
theorem c_Mo_weight_x1 {d K N n sg li nl ap ns dy : Nat} {tc : Int32} {C : Nat → va_E} {go : Nat → Int32} (m70 : C (70) = .inr (5, [.int (tc), .ref (71), .int (nI sg), .int (nI li), .ref (72), .int (nI nl), .ref (73), .int (nI ap), .int (nI ns), .ref (74), .ref (75), .ref (76), .ref (77), .ref (78), .ref (79), .ref (80), .ref (81), .ref (82), .ref (83), .ref (84), .int (nI dy), .ref (85), .ref (86), .ref (87), .ref (88), .ref (89), .ref (90)])) (m74 : C (74) = .inl (2, 20, .inl go)) (hns : ns ≤ 20) {s a : Int32} (h : ¬ ∃ j, j < ns ∧ s = nI j ∧ go j = 0) : gj_G md_Mo_weight (d + 1) K N 0 0 0 [(0, .ref (70)), (1, .int (s)), (2, .int (a))] [] (n) C (fun r => r.1 = gj_iv 0 ∧ r.2.1 = n ∧ r.2.2 70 = .inr (5, [.int (1), .ref (71), .int (nI sg), .int (nI li), .ref (72), .int (nI nl), .ref (73), .int (nI ap), .int (nI ns), .ref (74), .ref (75), .ref (76), .ref (77), .ref (78), .ref (79), .ref (80), .ref (81), .ref (82), .ref (83), .ref (84), .int (nI dy), .ref (85), .ref (86), .ref (87), .ref (88), .ref (89), .ref (90)]) ∧ ∀ y, y ≠ 70 → r.2.2 y = C y) := by
  refine gj_aload_n d_Mo_weight_0 rfl ?_
  refine gj_aload_n d_Mo_weight_1 rfl ?_
  refine gj_iload_n d_Mo_weight_2 rfl ?_
  refine gj_callV (as := [.int (s)]) (rest := [.ref (70)]) (K1 := 0) (N1 := 0) d_Mo_weight_3 mo_Mo_noShipment gw_725 gw_727 gw_14 m70 rfl pl_Mo_noShipment (Nat.le_of_ble_eq_true rfl) (Nat.le_of_ble_eq_true rfl) (Nat.zero_le _) (Nat.zero_le _) (c_Mo_noShipment1 m70 m74 hns h) (fun E n' C' _ h => by cases h) (fun v n' C' _ h => ?_)
  cases h
  refine gj_if_eq (tgt := 13) d_Mo_weight_6 (by decide) (fun h6 => absurd h6 (by decide)) (fun h6 => ?_)
  refine gj_kc (v := 1) d_Mo_weight_9 (by decide) ?_
  refine gj_goto (tgt := 41) d_Mo_weight_10 (by decide) ?_
  refine gj_put d_Mo_weight_41 gp_Mo_7 m70 (Nat.le_of_ble_eq_true rfl) (fun _ => rfl) (fun _ => rfl) ?_
  obtain ⟨C1, eC1⟩ : ∃ Z0, Z0 = va_up C (70) (.inr (5, [.int (1), .ref (71), .int (nI sg), .int (nI li), .ref (72), .int (nI nl), .ref (73), .int (nI ap), .int (nI ns), .ref (74), .ref (75), .ref (76), .ref (77), .ref (78), .ref (79), .ref (80), .ref (81), .ref (82), .ref (83), .ref (84), .int (nI dy), .ref (85), .ref (86), .ref (87), .ref (88), .ref (89), .ref (90)])) := ⟨_, rfl⟩
  refine gj_mem eC1 ?_
  have f2 : C1 (70) = .inr (5, [.int (1), .ref (71), .int (nI sg), .int (nI li), .ref (72), .int (nI nl), .ref (73), .int (nI ap), .int (nI ns), .ref (74), .ref (75), .ref (76), .ref (77), .ref (78), .ref (79), .ref (80), .ref (81), .ref (82), .ref (83), .ref (84), .int (nI dy), .ref (85), .ref (86), .ref (87), .ref (88), .ref (89), .ref (90)]) := by rw [eC1]; exact va_up_self _ _ _
  have f3 : C1 (74) = .inl (2, 20, .inl go) := by rw [eC1, va_up_ne _ _ (by omega)]; exact m74
  refine gj_aload_n d_Mo_weight_44 rfl ?_
  refine gj_get d_Mo_weight_45 gf_Mo_7 f2 rfl ?_
  refine gj_if_eq (tgt := 55) d_Mo_weight_48 (by decide) (fun h48 => absurd h48 (by decide)) (fun h48 => ?_)
  refine gj_kc (v := 0) d_Mo_weight_51 (by decide) ?_
  refine gj_goto (tgt := 61) d_Mo_weight_52 (by decide) ?_
  refine gj_iret rfl (Nat.zero_le _) (Nat.zero_le _) d_Mo_weight_61 ?_
  exact ⟨rfl, rfl, f2, fun y c0 => by show C1 y = C y; rw [eC1, va_up_ne _ _ (by assumption)]⟩
theorem c_Mo_price_x1 {d K N n sg li nl ap ns dy : Nat} {tc : Int32} {C : Nat → va_E} {go : Nat → Int32} (m70 : C (70) = .inr (5, [.int (tc), .ref (71), .int (nI sg), .int (nI li), .ref (72), .int (nI nl), .ref (73), .int (nI ap), .int (nI ns), .ref (74), .ref (75), .ref (76), .ref (77), .ref (78), .ref (79), .ref (80), .ref (81), .ref (82), .ref (83), .ref (84), .int (nI dy), .ref (85), .ref (86), .ref (87), .ref (88), .ref (89), .ref (90)])) (m74 : C (74) = .inl (2, 20, .inl go)) (hns : ns ≤ 20) {s a : Int32} (h : ¬ ∃ j, j < ns ∧ s = nI j ∧ go j = 0) : gj_G md_Mo_price (d + 1) K N 0 0 0 [(0, .ref (70)), (1, .int (s)), (2, .int (a))] [] (n) C (fun r => r.1 = gj_iv 0 ∧ r.2.1 = n ∧ r.2.2 70 = .inr (5, [.int (1), .ref (71), .int (nI sg), .int (nI li), .ref (72), .int (nI nl), .ref (73), .int (nI ap), .int (nI ns), .ref (74), .ref (75), .ref (76), .ref (77), .ref (78), .ref (79), .ref (80), .ref (81), .ref (82), .ref (83), .ref (84), .int (nI dy), .ref (85), .ref (86), .ref (87), .ref (88), .ref (89), .ref (90)]) ∧ ∀ y, y ≠ 70 → r.2.2 y = C y) := by
  refine gj_aload_n d_Mo_price_0 rfl ?_
  refine gj_aload_n d_Mo_price_1 rfl ?_
  refine gj_iload_n d_Mo_price_2 rfl ?_
  refine gj_callV (as := [.int (s)]) (rest := [.ref (70)]) (K1 := 0) (N1 := 0) d_Mo_price_3 mo_Mo_noShipment gw_725 gw_727 gw_14 m70 rfl pl_Mo_noShipment (Nat.le_of_ble_eq_true rfl) (Nat.le_of_ble_eq_true rfl) (Nat.zero_le _) (Nat.zero_le _) (c_Mo_noShipment1 m70 m74 hns h) (fun E n' C' _ h => by cases h) (fun v n' C' _ h => ?_)
  cases h
  refine gj_if_eq (tgt := 13) d_Mo_price_6 (by decide) (fun h6 => absurd h6 (by decide)) (fun h6 => ?_)
  refine gj_kc (v := 1) d_Mo_price_9 (by decide) ?_
  refine gj_goto (tgt := 43) d_Mo_price_10 (by decide) ?_
  refine gj_put d_Mo_price_43 gp_Mo_7 m70 (Nat.le_of_ble_eq_true rfl) (fun _ => rfl) (fun _ => rfl) ?_
  obtain ⟨C1, eC1⟩ : ∃ Z0, Z0 = va_up C (70) (.inr (5, [.int (1), .ref (71), .int (nI sg), .int (nI li), .ref (72), .int (nI nl), .ref (73), .int (nI ap), .int (nI ns), .ref (74), .ref (75), .ref (76), .ref (77), .ref (78), .ref (79), .ref (80), .ref (81), .ref (82), .ref (83), .ref (84), .int (nI dy), .ref (85), .ref (86), .ref (87), .ref (88), .ref (89), .ref (90)])) := ⟨_, rfl⟩
  refine gj_mem eC1 ?_
  have f2 : C1 (70) = .inr (5, [.int (1), .ref (71), .int (nI sg), .int (nI li), .ref (72), .int (nI nl), .ref (73), .int (nI ap), .int (nI ns), .ref (74), .ref (75), .ref (76), .ref (77), .ref (78), .ref (79), .ref (80), .ref (81), .ref (82), .ref (83), .ref (84), .int (nI dy), .ref (85), .ref (86), .ref (87), .ref (88), .ref (89), .ref (90)]) := by rw [eC1]; exact va_up_self _ _ _
  have f3 : C1 (74) = .inl (2, 20, .inl go) := by rw [eC1, va_up_ne _ _ (by omega)]; exact m74
  refine gj_aload_n d_Mo_price_46 rfl ?_
  refine gj_get d_Mo_price_47 gf_Mo_7 f2 rfl ?_
  refine gj_if_eq (tgt := 57) d_Mo_price_50 (by decide) (fun h50 => absurd h50 (by decide)) (fun h50 => ?_)
  refine gj_kc (v := 0) d_Mo_price_53 (by decide) ?_
  refine gj_goto (tgt := 63) d_Mo_price_54 (by decide) ?_
  refine gj_iret rfl (Nat.zero_le _) (Nat.zero_le _) d_Mo_price_63 ?_
  exact ⟨rfl, rfl, f2, fun y c0 => by show C1 y = C y; rw [eC1, va_up_ne _ _ (by assumption)]⟩
theorem c_Mo_cheapest_x1 {d K N n sg li nl ap ns dy : Nat} {tc : Int32} {C : Nat → va_E} {go : Nat → Int32} (m70 : C (70) = .inr (5, [.int (tc), .ref (71), .int (nI sg), .int (nI li), .ref (72), .int (nI nl), .ref (73), .int (nI ap), .int (nI ns), .ref (74), .ref (75), .ref (76), .ref (77), .ref (78), .ref (79), .ref (80), .ref (81), .ref (82), .ref (83), .ref (84), .int (nI dy), .ref (85), .ref (86), .ref (87), .ref (88), .ref (89), .ref (90)])) (m74 : C (74) = .inl (2, 20, .inl go)) (hns : ns ≤ 20) {s a : Int32} (h : ¬ ∃ j, j < ns ∧ s = nI j ∧ go j = 0) : gj_G md_Mo_cheapest (d + 1) K N 0 0 0 [(0, .ref (70)), (1, .int (s))] [] (n) C (fun r => r.1 = gj_iv 0 ∧ r.2.1 = n ∧ r.2.2 70 = .inr (5, [.int (1), .ref (71), .int (nI sg), .int (nI li), .ref (72), .int (nI nl), .ref (73), .int (nI ap), .int (nI ns), .ref (74), .ref (75), .ref (76), .ref (77), .ref (78), .ref (79), .ref (80), .ref (81), .ref (82), .ref (83), .ref (84), .int (nI dy), .ref (85), .ref (86), .ref (87), .ref (88), .ref (89), .ref (90)]) ∧ ∀ y, y ≠ 70 → r.2.2 y = C y) := by
  refine gj_aload_n d_Mo_cheapest_0 rfl ?_
  refine gj_aload_n d_Mo_cheapest_1 rfl ?_
  refine gj_iload_n d_Mo_cheapest_2 rfl ?_
  refine gj_callV (as := [.int (s)]) (rest := [.ref (70)]) (K1 := 0) (N1 := 0) d_Mo_cheapest_3 mo_Mo_noShipment gw_725 gw_727 gw_14 m70 rfl pl_Mo_noShipment (Nat.le_of_ble_eq_true rfl) (Nat.le_of_ble_eq_true rfl) (Nat.zero_le _) (Nat.zero_le _) (c_Mo_noShipment1 m70 m74 hns h) (fun E n' C' _ h => by cases h) (fun v n' C' _ h => ?_)
  cases h
  refine gj_if_eq (tgt := 13) d_Mo_cheapest_6 (by decide) (fun h6 => absurd h6 (by decide)) (fun h6 => ?_)
  refine gj_kc (v := 1) d_Mo_cheapest_9 (by decide) ?_
  refine gj_goto (tgt := 14) d_Mo_cheapest_10 (by decide) ?_
  refine gj_put d_Mo_cheapest_14 gp_Mo_7 m70 (Nat.le_of_ble_eq_true rfl) (fun _ => rfl) (fun _ => rfl) ?_
  obtain ⟨C1, eC1⟩ : ∃ Z0, Z0 = va_up C (70) (.inr (5, [.int (1), .ref (71), .int (nI sg), .int (nI li), .ref (72), .int (nI nl), .ref (73), .int (nI ap), .int (nI ns), .ref (74), .ref (75), .ref (76), .ref (77), .ref (78), .ref (79), .ref (80), .ref (81), .ref (82), .ref (83), .ref (84), .int (nI dy), .ref (85), .ref (86), .ref (87), .ref (88), .ref (89), .ref (90)])) := ⟨_, rfl⟩
  refine gj_mem eC1 ?_
  have f2 : C1 (70) = .inr (5, [.int (1), .ref (71), .int (nI sg), .int (nI li), .ref (72), .int (nI nl), .ref (73), .int (nI ap), .int (nI ns), .ref (74), .ref (75), .ref (76), .ref (77), .ref (78), .ref (79), .ref (80), .ref (81), .ref (82), .ref (83), .ref (84), .int (nI dy), .ref (85), .ref (86), .ref (87), .ref (88), .ref (89), .ref (90)]) := by rw [eC1]; exact va_up_self _ _ _
  have f3 : C1 (74) = .inl (2, 20, .inl go) := by rw [eC1, va_up_ne _ _ (by omega)]; exact m74
  refine gj_aload_n d_Mo_cheapest_17 rfl ?_
  refine gj_get d_Mo_cheapest_18 gf_Mo_7 f2 rfl ?_
  refine gj_if_eq (tgt := 26) d_Mo_cheapest_21 (by decide) (fun h21 => absurd h21 (by decide)) (fun h21 => ?_)
  refine gj_kc (v := 0) d_Mo_cheapest_24 (by decide) ?_
  refine gj_iret rfl (Nat.zero_le _) (Nat.zero_le _) d_Mo_cheapest_25 ?_
  exact ⟨rfl, rfl, f2, fun y c0 => by show C1 y = C y; rw [eC1, va_up_ne _ _ (by assumption)]⟩
theorem c_Mo_parcels_x1 {d K N n sg li nl ap ns dy : Nat} {tc : Int32} {C : Nat → va_E} {go : Nat → Int32} (m70 : C (70) = .inr (5, [.int (tc), .ref (71), .int (nI sg), .int (nI li), .ref (72), .int (nI nl), .ref (73), .int (nI ap), .int (nI ns), .ref (74), .ref (75), .ref (76), .ref (77), .ref (78), .ref (79), .ref (80), .ref (81), .ref (82), .ref (83), .ref (84), .int (nI dy), .ref (85), .ref (86), .ref (87), .ref (88), .ref (89), .ref (90)])) (m74 : C (74) = .inl (2, 20, .inl go)) (hns : ns ≤ 20) {s a : Int32} (h : ¬ ∃ j, j < ns ∧ s = nI j ∧ go j = 0) : gj_G md_Mo_parcels (d + 1) K N 0 0 0 [(0, .ref (70)), (1, .int (s)), (2, .int (a))] [] (n) C (fun r => r.1 = gj_iv 0 ∧ r.2.1 = n ∧ r.2.2 70 = .inr (5, [.int (1), .ref (71), .int (nI sg), .int (nI li), .ref (72), .int (nI nl), .ref (73), .int (nI ap), .int (nI ns), .ref (74), .ref (75), .ref (76), .ref (77), .ref (78), .ref (79), .ref (80), .ref (81), .ref (82), .ref (83), .ref (84), .int (nI dy), .ref (85), .ref (86), .ref (87), .ref (88), .ref (89), .ref (90)]) ∧ ∀ y, y ≠ 70 → r.2.2 y = C y) := by
  refine gj_aload_n d_Mo_parcels_0 rfl ?_
  refine gj_aload_n d_Mo_parcels_1 rfl ?_
  refine gj_iload_n d_Mo_parcels_2 rfl ?_
  refine gj_callV (as := [.int (s)]) (rest := [.ref (70)]) (K1 := 0) (N1 := 0) d_Mo_parcels_3 mo_Mo_noShipment gw_725 gw_727 gw_14 m70 rfl pl_Mo_noShipment (Nat.le_of_ble_eq_true rfl) (Nat.le_of_ble_eq_true rfl) (Nat.zero_le _) (Nat.zero_le _) (c_Mo_noShipment1 m70 m74 hns h) (fun E n' C' _ h => by cases h) (fun v n' C' _ h => ?_)
  cases h
  refine gj_if_eq (tgt := 13) d_Mo_parcels_6 (by decide) (fun h6 => absurd h6 (by decide)) (fun h6 => ?_)
  refine gj_kc (v := 1) d_Mo_parcels_9 (by decide) ?_
  refine gj_goto (tgt := 28) d_Mo_parcels_10 (by decide) ?_
  refine gj_put d_Mo_parcels_28 gp_Mo_7 m70 (Nat.le_of_ble_eq_true rfl) (fun _ => rfl) (fun _ => rfl) ?_
  obtain ⟨C1, eC1⟩ : ∃ Z0, Z0 = va_up C (70) (.inr (5, [.int (1), .ref (71), .int (nI sg), .int (nI li), .ref (72), .int (nI nl), .ref (73), .int (nI ap), .int (nI ns), .ref (74), .ref (75), .ref (76), .ref (77), .ref (78), .ref (79), .ref (80), .ref (81), .ref (82), .ref (83), .ref (84), .int (nI dy), .ref (85), .ref (86), .ref (87), .ref (88), .ref (89), .ref (90)])) := ⟨_, rfl⟩
  refine gj_mem eC1 ?_
  have f2 : C1 (70) = .inr (5, [.int (1), .ref (71), .int (nI sg), .int (nI li), .ref (72), .int (nI nl), .ref (73), .int (nI ap), .int (nI ns), .ref (74), .ref (75), .ref (76), .ref (77), .ref (78), .ref (79), .ref (80), .ref (81), .ref (82), .ref (83), .ref (84), .int (nI dy), .ref (85), .ref (86), .ref (87), .ref (88), .ref (89), .ref (90)]) := by rw [eC1]; exact va_up_self _ _ _
  have f3 : C1 (74) = .inl (2, 20, .inl go) := by rw [eC1, va_up_ne _ _ (by omega)]; exact m74
  refine gj_aload_n d_Mo_parcels_31 rfl ?_
  refine gj_get d_Mo_parcels_32 gf_Mo_7 f2 rfl ?_
  refine gj_if_eq (tgt := 40) d_Mo_parcels_35 (by decide) (fun h35 => absurd h35 (by decide)) (fun h35 => ?_)
  refine gj_kc (v := 0) d_Mo_parcels_38 (by decide) ?_
  refine gj_iret rfl (Nat.zero_le _) (Nat.zero_le _) d_Mo_parcels_39 ?_
  exact ⟨rfl, rfl, f2, fun y c0 => by show C1 y = C y; rw [eC1, va_up_ne _ _ (by assumption)]⟩
theorem c_Mo_book_x1 {d K N n sg li nl ap ns dy : Nat} {tc : Int32} {C : Nat → va_E} {go : Nat → Int32} (m70 : C (70) = .inr (5, [.int (tc), .ref (71), .int (nI sg), .int (nI li), .ref (72), .int (nI nl), .ref (73), .int (nI ap), .int (nI ns), .ref (74), .ref (75), .ref (76), .ref (77), .ref (78), .ref (79), .ref (80), .ref (81), .ref (82), .ref (83), .ref (84), .int (nI dy), .ref (85), .ref (86), .ref (87), .ref (88), .ref (89), .ref (90)])) (m74 : C (74) = .inl (2, 20, .inl go)) (hns : ns ≤ 20) {s a : Int32} (h : ¬ ∃ j, j < ns ∧ s = nI j ∧ go j = 0) : gj_G md_Mo_book (d + 1) K N 0 0 0 [(0, .ref (70)), (1, .int (s)), (2, .int (a))] [] (n) C (fun r => r.1 = gj_iv 0 ∧ r.2.1 = n ∧ r.2.2 70 = .inr (5, [.int (1), .ref (71), .int (nI sg), .int (nI li), .ref (72), .int (nI nl), .ref (73), .int (nI ap), .int (nI ns), .ref (74), .ref (75), .ref (76), .ref (77), .ref (78), .ref (79), .ref (80), .ref (81), .ref (82), .ref (83), .ref (84), .int (nI dy), .ref (85), .ref (86), .ref (87), .ref (88), .ref (89), .ref (90)]) ∧ ∀ y, y ≠ 70 → r.2.2 y = C y) := by
  refine gj_aload_n d_Mo_book_0 rfl ?_
  refine gj_aload_n d_Mo_book_1 rfl ?_
  refine gj_iload_n d_Mo_book_2 rfl ?_
  refine gj_callV (as := [.int (s)]) (rest := [.ref (70)]) (K1 := 0) (N1 := 0) d_Mo_book_3 mo_Mo_noShipment gw_725 gw_727 gw_14 m70 rfl pl_Mo_noShipment (Nat.le_of_ble_eq_true rfl) (Nat.le_of_ble_eq_true rfl) (Nat.zero_le _) (Nat.zero_le _) (c_Mo_noShipment1 m70 m74 hns h) (fun E n' C' _ h => by cases h) (fun v n' C' _ h => ?_)
  cases h
  refine gj_if_eq (tgt := 13) d_Mo_book_6 (by decide) (fun h6 => absurd h6 (by decide)) (fun h6 => ?_)
  refine gj_kc (v := 1) d_Mo_book_9 (by decide) ?_
  refine gj_goto (tgt := 41) d_Mo_book_10 (by decide) ?_
  refine gj_put d_Mo_book_41 gp_Mo_7 m70 (Nat.le_of_ble_eq_true rfl) (fun _ => rfl) (fun _ => rfl) ?_
  obtain ⟨C1, eC1⟩ : ∃ Z0, Z0 = va_up C (70) (.inr (5, [.int (1), .ref (71), .int (nI sg), .int (nI li), .ref (72), .int (nI nl), .ref (73), .int (nI ap), .int (nI ns), .ref (74), .ref (75), .ref (76), .ref (77), .ref (78), .ref (79), .ref (80), .ref (81), .ref (82), .ref (83), .ref (84), .int (nI dy), .ref (85), .ref (86), .ref (87), .ref (88), .ref (89), .ref (90)])) := ⟨_, rfl⟩
  refine gj_mem eC1 ?_
  have f2 : C1 (70) = .inr (5, [.int (1), .ref (71), .int (nI sg), .int (nI li), .ref (72), .int (nI nl), .ref (73), .int (nI ap), .int (nI ns), .ref (74), .ref (75), .ref (76), .ref (77), .ref (78), .ref (79), .ref (80), .ref (81), .ref (82), .ref (83), .ref (84), .int (nI dy), .ref (85), .ref (86), .ref (87), .ref (88), .ref (89), .ref (90)]) := by rw [eC1]; exact va_up_self _ _ _
  have f3 : C1 (74) = .inl (2, 20, .inl go) := by rw [eC1, va_up_ne _ _ (by omega)]; exact m74
  refine gj_aload_n d_Mo_book_44 rfl ?_
  refine gj_get d_Mo_book_45 gf_Mo_7 f2 rfl ?_
  refine gj_if_eq (tgt := 53) d_Mo_book_48 (by decide) (fun h48 => absurd h48 (by decide)) (fun h48 => ?_)
  refine gj_kc (v := 0) d_Mo_book_51 (by decide) ?_
  refine gj_iret rfl (Nat.zero_le _) (Nat.zero_le _) d_Mo_book_52 ?_
  exact ⟨rfl, rfl, f2, fun y c0 => by show C1 y = C y; rw [eC1, va_up_ne _ _ (by assumption)]⟩
theorem c_Mo_combine_x1 {d K N n sg li nl ap ns dy : Nat} {tc : Int32} {C : Nat → va_E} {go : Nat → Int32} (m70 : C (70) = .inr (5, [.int (tc), .ref (71), .int (nI sg), .int (nI li), .ref (72), .int (nI nl), .ref (73), .int (nI ap), .int (nI ns), .ref (74), .ref (75), .ref (76), .ref (77), .ref (78), .ref (79), .ref (80), .ref (81), .ref (82), .ref (83), .ref (84), .int (nI dy), .ref (85), .ref (86), .ref (87), .ref (88), .ref (89), .ref (90)])) (m74 : C (74) = .inl (2, 20, .inl go)) (hns : ns ≤ 20) {s a : Int32} (h : ¬ ∃ j, j < ns ∧ s = nI j ∧ go j = 0) : gj_G md_Mo_combine (d + 1) K N 0 0 0 [(0, .ref (70)), (1, .int (s)), (2, .int (a))] [] (n) C (fun r => r.1 = gj_iv 0 ∧ r.2.1 = n ∧ r.2.2 70 = .inr (5, [.int (1), .ref (71), .int (nI sg), .int (nI li), .ref (72), .int (nI nl), .ref (73), .int (nI ap), .int (nI ns), .ref (74), .ref (75), .ref (76), .ref (77), .ref (78), .ref (79), .ref (80), .ref (81), .ref (82), .ref (83), .ref (84), .int (nI dy), .ref (85), .ref (86), .ref (87), .ref (88), .ref (89), .ref (90)]) ∧ ∀ y, y ≠ 70 → r.2.2 y = C y) := by
  refine gj_aload_n d_Mo_combine_0 rfl ?_
  refine gj_aload_n d_Mo_combine_1 rfl ?_
  refine gj_iload_n d_Mo_combine_2 rfl ?_
  refine gj_callV (as := [.int (s)]) (rest := [.ref (70)]) (K1 := 0) (N1 := 0) d_Mo_combine_3 mo_Mo_noShipment gw_725 gw_727 gw_14 m70 rfl pl_Mo_noShipment (Nat.le_of_ble_eq_true rfl) (Nat.le_of_ble_eq_true rfl) (Nat.zero_le _) (Nat.zero_le _) (c_Mo_noShipment1 m70 m74 hns h) (fun E n' C' _ h => by cases h) (fun v n' C' _ h => ?_)
  cases h
  refine gj_if_ne (tgt := 17) d_Mo_combine_6 (by decide) (fun h6 => ?_) (fun h6 => absurd h6 (by decide))
  refine gj_kc (v := 1) d_Mo_combine_17 (by decide) ?_
  refine gj_goto (tgt := 22) d_Mo_combine_18 (by decide) ?_
  refine gj_put d_Mo_combine_22 gp_Mo_7 m70 (Nat.le_of_ble_eq_true rfl) (fun _ => rfl) (fun _ => rfl) ?_
  obtain ⟨C1, eC1⟩ : ∃ Z0, Z0 = va_up C (70) (.inr (5, [.int (1), .ref (71), .int (nI sg), .int (nI li), .ref (72), .int (nI nl), .ref (73), .int (nI ap), .int (nI ns), .ref (74), .ref (75), .ref (76), .ref (77), .ref (78), .ref (79), .ref (80), .ref (81), .ref (82), .ref (83), .ref (84), .int (nI dy), .ref (85), .ref (86), .ref (87), .ref (88), .ref (89), .ref (90)])) := ⟨_, rfl⟩
  refine gj_mem eC1 ?_
  have f2 : C1 (70) = .inr (5, [.int (1), .ref (71), .int (nI sg), .int (nI li), .ref (72), .int (nI nl), .ref (73), .int (nI ap), .int (nI ns), .ref (74), .ref (75), .ref (76), .ref (77), .ref (78), .ref (79), .ref (80), .ref (81), .ref (82), .ref (83), .ref (84), .int (nI dy), .ref (85), .ref (86), .ref (87), .ref (88), .ref (89), .ref (90)]) := by rw [eC1]; exact va_up_self _ _ _
  have f3 : C1 (74) = .inl (2, 20, .inl go) := by rw [eC1, va_up_ne _ _ (by omega)]; exact m74
  refine gj_aload_n d_Mo_combine_25 rfl ?_
  refine gj_get d_Mo_combine_26 gf_Mo_7 f2 rfl ?_
  refine gj_if_eq (tgt := 34) d_Mo_combine_29 (by decide) (fun h29 => absurd h29 (by decide)) (fun h29 => ?_)
  refine gj_kc (v := 0) d_Mo_combine_32 (by decide) ?_
  refine gj_iret rfl (Nat.zero_le _) (Nat.zero_le _) d_Mo_combine_33 ?_
  exact ⟨rfl, rfl, f2, fun y c0 => by show C1 y = C y; rw [eC1, va_up_ne _ _ (by assumption)]⟩
theorem c_Mo_invoice_x1 {d K N n sg li nl ap ns dy : Nat} {tc : Int32} {C : Nat → va_E} {go : Nat → Int32} (m70 : C (70) = .inr (5, [.int (tc), .ref (71), .int (nI sg), .int (nI li), .ref (72), .int (nI nl), .ref (73), .int (nI ap), .int (nI ns), .ref (74), .ref (75), .ref (76), .ref (77), .ref (78), .ref (79), .ref (80), .ref (81), .ref (82), .ref (83), .ref (84), .int (nI dy), .ref (85), .ref (86), .ref (87), .ref (88), .ref (89), .ref (90)])) (m74 : C (74) = .inl (2, 20, .inl go)) (hns : ns ≤ 20) {s a : Int32} (h : ¬ ∃ j, j < ns ∧ s = nI j ∧ go j = 0) : gj_G md_Mo_invoice (d + 1) K N 0 0 0 [(0, .ref (70)), (1, .int (s)), (2, .int (a))] [] (n) C (fun r => r.1 = gj_iv 0 ∧ r.2.1 = n ∧ r.2.2 70 = .inr (5, [.int (1), .ref (71), .int (nI sg), .int (nI li), .ref (72), .int (nI nl), .ref (73), .int (nI ap), .int (nI ns), .ref (74), .ref (75), .ref (76), .ref (77), .ref (78), .ref (79), .ref (80), .ref (81), .ref (82), .ref (83), .ref (84), .int (nI dy), .ref (85), .ref (86), .ref (87), .ref (88), .ref (89), .ref (90)]) ∧ ∀ y, y ≠ 70 → r.2.2 y = C y) := by
  refine gj_aload_n d_Mo_invoice_0 rfl ?_
  refine gj_aload_n d_Mo_invoice_1 rfl ?_
  refine gj_iload_n d_Mo_invoice_2 rfl ?_
  refine gj_callV (as := [.int (s)]) (rest := [.ref (70)]) (K1 := 0) (N1 := 0) d_Mo_invoice_3 mo_Mo_noShipment gw_725 gw_727 gw_14 m70 rfl pl_Mo_noShipment (Nat.le_of_ble_eq_true rfl) (Nat.le_of_ble_eq_true rfl) (Nat.zero_le _) (Nat.zero_le _) (c_Mo_noShipment1 m70 m74 hns h) (fun E n' C' _ h => by cases h) (fun v n' C' _ h => ?_)
  cases h
  refine gj_if_eq (tgt := 13) d_Mo_invoice_6 (by decide) (fun h6 => absurd h6 (by decide)) (fun h6 => ?_)
  refine gj_kc (v := 1) d_Mo_invoice_9 (by decide) ?_
  refine gj_goto (tgt := 50) d_Mo_invoice_10 (by decide) ?_
  refine gj_put d_Mo_invoice_50 gp_Mo_7 m70 (Nat.le_of_ble_eq_true rfl) (fun _ => rfl) (fun _ => rfl) ?_
  obtain ⟨C1, eC1⟩ : ∃ Z0, Z0 = va_up C (70) (.inr (5, [.int (1), .ref (71), .int (nI sg), .int (nI li), .ref (72), .int (nI nl), .ref (73), .int (nI ap), .int (nI ns), .ref (74), .ref (75), .ref (76), .ref (77), .ref (78), .ref (79), .ref (80), .ref (81), .ref (82), .ref (83), .ref (84), .int (nI dy), .ref (85), .ref (86), .ref (87), .ref (88), .ref (89), .ref (90)])) := ⟨_, rfl⟩
  refine gj_mem eC1 ?_
  have f2 : C1 (70) = .inr (5, [.int (1), .ref (71), .int (nI sg), .int (nI li), .ref (72), .int (nI nl), .ref (73), .int (nI ap), .int (nI ns), .ref (74), .ref (75), .ref (76), .ref (77), .ref (78), .ref (79), .ref (80), .ref (81), .ref (82), .ref (83), .ref (84), .int (nI dy), .ref (85), .ref (86), .ref (87), .ref (88), .ref (89), .ref (90)]) := by rw [eC1]; exact va_up_self _ _ _
  have f3 : C1 (74) = .inl (2, 20, .inl go) := by rw [eC1, va_up_ne _ _ (by omega)]; exact m74
  refine gj_aload_n d_Mo_invoice_53 rfl ?_
  refine gj_get d_Mo_invoice_54 gf_Mo_7 f2 rfl ?_
  refine gj_if_eq (tgt := 62) d_Mo_invoice_57 (by decide) (fun h57 => absurd h57 (by decide)) (fun h57 => ?_)
  refine gj_kc (v := 0) d_Mo_invoice_60 (by decide) ?_
  refine gj_iret rfl (Nat.zero_le _) (Nat.zero_le _) d_Mo_invoice_61 ?_
  exact ⟨rfl, rfl, f2, fun y c0 => by show C1 y = C y; rw [eC1, va_up_ne _ _ (by assumption)]⟩
theorem c_Mo_refund_x1 {d K N n sg li nl ap ns dy : Nat} {tc : Int32} {C : Nat → va_E} {go : Nat → Int32} (m70 : C (70) = .inr (5, [.int (tc), .ref (71), .int (nI sg), .int (nI li), .ref (72), .int (nI nl), .ref (73), .int (nI ap), .int (nI ns), .ref (74), .ref (75), .ref (76), .ref (77), .ref (78), .ref (79), .ref (80), .ref (81), .ref (82), .ref (83), .ref (84), .int (nI dy), .ref (85), .ref (86), .ref (87), .ref (88), .ref (89), .ref (90)])) (m74 : C (74) = .inl (2, 20, .inl go)) (hns : ns ≤ 20) {s a : Int32} (h : ¬ ∃ j, j < ns ∧ s = nI j ∧ go j = 0) : gj_G md_Mo_refund (d + 1) K N 0 0 0 [(0, .ref (70)), (1, .int (s)), (2, .int (a))] [] (n) C (fun r => r.1 = gj_iv 0 ∧ r.2.1 = n ∧ r.2.2 70 = .inr (5, [.int (1), .ref (71), .int (nI sg), .int (nI li), .ref (72), .int (nI nl), .ref (73), .int (nI ap), .int (nI ns), .ref (74), .ref (75), .ref (76), .ref (77), .ref (78), .ref (79), .ref (80), .ref (81), .ref (82), .ref (83), .ref (84), .int (nI dy), .ref (85), .ref (86), .ref (87), .ref (88), .ref (89), .ref (90)]) ∧ ∀ y, y ≠ 70 → r.2.2 y = C y) := by
  refine gj_aload_n d_Mo_refund_0 rfl ?_
  refine gj_aload_n d_Mo_refund_1 rfl ?_
  refine gj_iload_n d_Mo_refund_2 rfl ?_
  refine gj_callV (as := [.int (s)]) (rest := [.ref (70)]) (K1 := 0) (N1 := 0) d_Mo_refund_3 mo_Mo_noShipment gw_725 gw_727 gw_14 m70 rfl pl_Mo_noShipment (Nat.le_of_ble_eq_true rfl) (Nat.le_of_ble_eq_true rfl) (Nat.zero_le _) (Nat.zero_le _) (c_Mo_noShipment1 m70 m74 hns h) (fun E n' C' _ h => by cases h) (fun v n' C' _ h => ?_)
  cases h
  refine gj_if_eq (tgt := 13) d_Mo_refund_6 (by decide) (fun h6 => absurd h6 (by decide)) (fun h6 => ?_)
  refine gj_kc (v := 1) d_Mo_refund_9 (by decide) ?_
  refine gj_goto (tgt := 42) d_Mo_refund_10 (by decide) ?_
  refine gj_put d_Mo_refund_42 gp_Mo_7 m70 (Nat.le_of_ble_eq_true rfl) (fun _ => rfl) (fun _ => rfl) ?_
  obtain ⟨C1, eC1⟩ : ∃ Z0, Z0 = va_up C (70) (.inr (5, [.int (1), .ref (71), .int (nI sg), .int (nI li), .ref (72), .int (nI nl), .ref (73), .int (nI ap), .int (nI ns), .ref (74), .ref (75), .ref (76), .ref (77), .ref (78), .ref (79), .ref (80), .ref (81), .ref (82), .ref (83), .ref (84), .int (nI dy), .ref (85), .ref (86), .ref (87), .ref (88), .ref (89), .ref (90)])) := ⟨_, rfl⟩
  refine gj_mem eC1 ?_
  have f2 : C1 (70) = .inr (5, [.int (1), .ref (71), .int (nI sg), .int (nI li), .ref (72), .int (nI nl), .ref (73), .int (nI ap), .int (nI ns), .ref (74), .ref (75), .ref (76), .ref (77), .ref (78), .ref (79), .ref (80), .ref (81), .ref (82), .ref (83), .ref (84), .int (nI dy), .ref (85), .ref (86), .ref (87), .ref (88), .ref (89), .ref (90)]) := by rw [eC1]; exact va_up_self _ _ _
  have f3 : C1 (74) = .inl (2, 20, .inl go) := by rw [eC1, va_up_ne _ _ (by omega)]; exact m74
  refine gj_aload_n d_Mo_refund_45 rfl ?_
  refine gj_get d_Mo_refund_46 gf_Mo_7 f2 rfl ?_
  refine gj_if_eq (tgt := 54) d_Mo_refund_49 (by decide) (fun h49 => absurd h49 (by decide)) (fun h49 => ?_)
  refine gj_kc (v := 0) d_Mo_refund_52 (by decide) ?_
  refine gj_iret rfl (Nat.zero_le _) (Nat.zero_le _) d_Mo_refund_53 ?_
  exact ⟨rfl, rfl, f2, fun y c0 => by show C1 y = C y; rw [eC1, va_up_ne _ _ (by assumption)]⟩
theorem c_Mo_told_x1 {d K N n sg li nl ap ns dy : Nat} {tc : Int32} {C : Nat → va_E} {go : Nat → Int32} (m70 : C (70) = .inr (5, [.int (tc), .ref (71), .int (nI sg), .int (nI li), .ref (72), .int (nI nl), .ref (73), .int (nI ap), .int (nI ns), .ref (74), .ref (75), .ref (76), .ref (77), .ref (78), .ref (79), .ref (80), .ref (81), .ref (82), .ref (83), .ref (84), .int (nI dy), .ref (85), .ref (86), .ref (87), .ref (88), .ref (89), .ref (90)])) (m74 : C (74) = .inl (2, 20, .inl go)) (hns : ns ≤ 20) {s a : Int32} (h : ¬ ∃ j, j < ns ∧ s = nI j ∧ go j = 0) : gj_G md_Mo_told (d + 1) K N 0 0 0 [(0, .ref (70)), (1, .int (s)), (2, .int (a))] [] (n) C (fun r => r.1 = gj_iv 0 ∧ r.2.1 = n ∧ r.2.2 70 = .inr (5, [.int (1), .ref (71), .int (nI sg), .int (nI li), .ref (72), .int (nI nl), .ref (73), .int (nI ap), .int (nI ns), .ref (74), .ref (75), .ref (76), .ref (77), .ref (78), .ref (79), .ref (80), .ref (81), .ref (82), .ref (83), .ref (84), .int (nI dy), .ref (85), .ref (86), .ref (87), .ref (88), .ref (89), .ref (90)]) ∧ ∀ y, y ≠ 70 → r.2.2 y = C y) := by
  refine gj_aload_n d_Mo_told_0 rfl ?_
  refine gj_aload_n d_Mo_told_1 rfl ?_
  refine gj_iload_n d_Mo_told_2 rfl ?_
  refine gj_callV (as := [.int (s)]) (rest := [.ref (70)]) (K1 := 0) (N1 := 0) d_Mo_told_3 mo_Mo_noShipment gw_725 gw_727 gw_14 m70 rfl pl_Mo_noShipment (Nat.le_of_ble_eq_true rfl) (Nat.le_of_ble_eq_true rfl) (Nat.zero_le _) (Nat.zero_le _) (c_Mo_noShipment1 m70 m74 hns h) (fun E n' C' _ h => by cases h) (fun v n' C' _ h => ?_)
  cases h
  refine gj_if_eq (tgt := 13) d_Mo_told_6 (by decide) (fun h6 => absurd h6 (by decide)) (fun h6 => ?_)
  refine gj_kc (v := 1) d_Mo_told_9 (by decide) ?_
  refine gj_goto (tgt := 27) d_Mo_told_10 (by decide) ?_
  refine gj_put d_Mo_told_27 gp_Mo_7 m70 (Nat.le_of_ble_eq_true rfl) (fun _ => rfl) (fun _ => rfl) ?_
  obtain ⟨C1, eC1⟩ : ∃ Z0, Z0 = va_up C (70) (.inr (5, [.int (1), .ref (71), .int (nI sg), .int (nI li), .ref (72), .int (nI nl), .ref (73), .int (nI ap), .int (nI ns), .ref (74), .ref (75), .ref (76), .ref (77), .ref (78), .ref (79), .ref (80), .ref (81), .ref (82), .ref (83), .ref (84), .int (nI dy), .ref (85), .ref (86), .ref (87), .ref (88), .ref (89), .ref (90)])) := ⟨_, rfl⟩
  refine gj_mem eC1 ?_
  have f2 : C1 (70) = .inr (5, [.int (1), .ref (71), .int (nI sg), .int (nI li), .ref (72), .int (nI nl), .ref (73), .int (nI ap), .int (nI ns), .ref (74), .ref (75), .ref (76), .ref (77), .ref (78), .ref (79), .ref (80), .ref (81), .ref (82), .ref (83), .ref (84), .int (nI dy), .ref (85), .ref (86), .ref (87), .ref (88), .ref (89), .ref (90)]) := by rw [eC1]; exact va_up_self _ _ _
  have f3 : C1 (74) = .inl (2, 20, .inl go) := by rw [eC1, va_up_ne _ _ (by omega)]; exact m74
  refine gj_aload_n d_Mo_told_30 rfl ?_
  refine gj_get d_Mo_told_31 gf_Mo_7 f2 rfl ?_
  refine gj_if_eq (tgt := 39) d_Mo_told_34 (by decide) (fun h34 => absurd h34 (by decide)) (fun h34 => ?_)
  refine gj_kc (v := 0) d_Mo_told_37 (by decide) ?_
  refine gj_iret rfl (Nat.zero_le _) (Nat.zero_le _) d_Mo_told_38 ?_
  exact ⟨rfl, rfl, f2, fun y c0 => by show C1 y = C y; rw [eC1, va_up_ne _ _ (by assumption)]⟩
set_option maxHeartbeats 2000000 in
theorem c_Mo_combine_x1b {d K N n sg li nl ap ns dy : Nat} {tc : Int32} {C : Nat → va_E} {go : Nat → Int32} (m70 : C (70) = .inr (5, [.int (tc), .ref (71), .int (nI sg), .int (nI li), .ref (72), .int (nI nl), .ref (73), .int (nI ap), .int (nI ns), .ref (74), .ref (75), .ref (76), .ref (77), .ref (78), .ref (79), .ref (80), .ref (81), .ref (82), .ref (83), .ref (84), .int (nI dy), .ref (85), .ref (86), .ref (87), .ref (88), .ref (89), .ref (90)])) (m74 : C (74) = .inl (2, 20, .inl go)) (hns : ns ≤ 20) {s a : Int32} {j : Nat} (hj : j < ns) (hg : go j = 0) (h : ¬ ∃ j, j < ns ∧ a = nI j ∧ go j = 0) : gj_G md_Mo_combine (d + 1) K N 0 0 0 [(0, .ref (70)), (1, .int (nI j)), (2, .int (a))] [] (n) C (fun r => r.1 = gj_iv 0 ∧ r.2.1 = n ∧ r.2.2 70 = .inr (5, [.int (1), .ref (71), .int (nI sg), .int (nI li), .ref (72), .int (nI nl), .ref (73), .int (nI ap), .int (nI ns), .ref (74), .ref (75), .ref (76), .ref (77), .ref (78), .ref (79), .ref (80), .ref (81), .ref (82), .ref (83), .ref (84), .int (nI dy), .ref (85), .ref (86), .ref (87), .ref (88), .ref (89), .ref (90)]) ∧ ∀ y, y ≠ 70 → r.2.2 y = C y) := by
  refine gj_aload_n d_Mo_combine_0 rfl ?_
  refine gj_aload_n d_Mo_combine_1 rfl ?_
  refine gj_iload_n d_Mo_combine_2 rfl ?_
  refine gj_callV (as := [.int (nI j)]) (rest := [.ref (70)]) (K1 := 0) (N1 := 0) d_Mo_combine_3 mo_Mo_noShipment gw_725 gw_727 gw_14 m70 rfl pl_Mo_noShipment (Nat.le_of_ble_eq_true rfl) (Nat.le_of_ble_eq_true rfl) (Nat.zero_le _) (Nat.zero_le _) (c_Mo_noShipment m70 m74 hns hj hg) (fun E n' C' _ h => by cases h) (fun v n' C' _ h => ?_)
  cases h
  refine gj_if_ne (tgt := 17) d_Mo_combine_6 (by decide) (fun h6 => absurd (by decide) h6) (fun h6 => ?_)
  refine gj_aload_n d_Mo_combine_9 rfl ?_
  refine gj_iload_n d_Mo_combine_10 rfl ?_
  refine gj_callV (as := [.int (a)]) (rest := [.ref (70)]) (K1 := 0) (N1 := 0) d_Mo_combine_11 mo_Mo_noShipment gw_725 gw_727 gw_14 m70 rfl pl_Mo_noShipment (Nat.le_of_ble_eq_true rfl) (Nat.le_of_ble_eq_true rfl) (Nat.zero_le _) (Nat.zero_le _) (c_Mo_noShipment1 m70 m74 hns h) (fun E n' C' _ h => by cases h) (fun v n' C' _ h => ?_)
  cases h
  refine gj_if_eq (tgt := 21) d_Mo_combine_14 (by decide) (fun h14 => absurd h14 (by decide)) (fun h14 => ?_)
  refine gj_kc (v := 1) d_Mo_combine_17 (by decide) ?_
  refine gj_goto (tgt := 22) d_Mo_combine_18 (by decide) ?_
  refine gj_put d_Mo_combine_22 gp_Mo_7 m70 (Nat.le_of_ble_eq_true rfl) (fun _ => rfl) (fun _ => rfl) ?_
  obtain ⟨C1, eC1⟩ : ∃ Z0, Z0 = va_up C (70) (.inr (5, [.int (1), .ref (71), .int (nI sg), .int (nI li), .ref (72), .int (nI nl), .ref (73), .int (nI ap), .int (nI ns), .ref (74), .ref (75), .ref (76), .ref (77), .ref (78), .ref (79), .ref (80), .ref (81), .ref (82), .ref (83), .ref (84), .int (nI dy), .ref (85), .ref (86), .ref (87), .ref (88), .ref (89), .ref (90)])) := ⟨_, rfl⟩
  refine gj_mem eC1 ?_
  have f2 : C1 (70) = .inr (5, [.int (1), .ref (71), .int (nI sg), .int (nI li), .ref (72), .int (nI nl), .ref (73), .int (nI ap), .int (nI ns), .ref (74), .ref (75), .ref (76), .ref (77), .ref (78), .ref (79), .ref (80), .ref (81), .ref (82), .ref (83), .ref (84), .int (nI dy), .ref (85), .ref (86), .ref (87), .ref (88), .ref (89), .ref (90)]) := by rw [eC1]; exact va_up_self _ _ _
  have f3 : C1 (74) = .inl (2, 20, .inl go) := by rw [eC1, va_up_ne _ _ (by omega)]; exact m74
  refine gj_aload_n d_Mo_combine_25 rfl ?_
  refine gj_get d_Mo_combine_26 gf_Mo_7 f2 rfl ?_
  refine gj_if_eq (tgt := 34) d_Mo_combine_29 (by decide) (fun h29 => absurd h29 (by decide)) (fun h29 => ?_)
  refine gj_kc (v := 0) d_Mo_combine_32 (by decide) ?_
  refine gj_iret rfl (Nat.zero_le _) (Nat.zero_le _) d_Mo_combine_33 ?_
  exact ⟨rfl, rfl, f2, fun y c0 => by show C1 y = C y; rw [eC1, va_up_ne _ _ (by assumption)]⟩
theorem c_Mo_weight_x2 {d K N n sg li nl ap ns dy : Nat} {tc : Int32} {C : Nat → va_E} {go : Nat → Int32} (m70 : C (70) = .inr (5, [.int (tc), .ref (71), .int (nI sg), .int (nI li), .ref (72), .int (nI nl), .ref (73), .int (nI ap), .int (nI ns), .ref (74), .ref (75), .ref (76), .ref (77), .ref (78), .ref (79), .ref (80), .ref (81), .ref (82), .ref (83), .ref (84), .int (nI dy), .ref (85), .ref (86), .ref (87), .ref (88), .ref (89), .ref (90)])) (m74 : C (74) = .inl (2, 20, .inl go)) (hns : ns ≤ 20) {s a : Int32} {j : Nat} (hj : j < ns) (hg : go j = 0) (h : ¬ (0 ≤ a ∧ a ≤ 9)) : gj_G md_Mo_weight (d + 1) K N 0 0 0 [(0, .ref (70)), (1, .int (nI j)), (2, .int (a))] [] (n) C (fun r => r.1 = gj_iv 0 ∧ r.2.1 = n ∧ r.2.2 70 = .inr (5, [.int (2), .ref (71), .int (nI sg), .int (nI li), .ref (72), .int (nI nl), .ref (73), .int (nI ap), .int (nI ns), .ref (74), .ref (75), .ref (76), .ref (77), .ref (78), .ref (79), .ref (80), .ref (81), .ref (82), .ref (83), .ref (84), .int (nI dy), .ref (85), .ref (86), .ref (87), .ref (88), .ref (89), .ref (90)]) ∧ ∀ y, y ≠ 70 → r.2.2 y = C y) := by
  refine gj_aload_n d_Mo_weight_0 rfl ?_
  refine gj_aload_n d_Mo_weight_1 rfl ?_
  refine gj_iload_n d_Mo_weight_2 rfl ?_
  refine gj_callV (as := [.int (nI j)]) (rest := [.ref (70)]) (K1 := 0) (N1 := 0) d_Mo_weight_3 mo_Mo_noShipment gw_725 gw_727 gw_14 m70 rfl pl_Mo_noShipment (Nat.le_of_ble_eq_true rfl) (Nat.le_of_ble_eq_true rfl) (Nat.zero_le _) (Nat.zero_le _) (c_Mo_noShipment m70 m74 hns hj hg) (fun E n' C' _ h => by cases h) (fun v n' C' _ h => ?_)
  cases h
  refine gj_if_eq (tgt := 13) d_Mo_weight_6 (by decide) (fun h6 => ?_) (fun h6 => absurd (by decide) h6)
  refine gj_iload_n d_Mo_weight_13 rfl ?_
  refine gj_kc (v := 0) d_Mo_weight_14 (by decide) ?_
  refine gj_kb (v := 9) d_Mo_weight_15 (by decide) ?_
  refine gj_callS (as := [.int (a), .int (0), .int (9)]) (rest := [.ref (70)]) (K1 := 0) (N1 := 0) d_Mo_weight_17 mo_Mo_not gw_687 gw_688 gw_25 pl_Mo_not (Nat.le_of_ble_eq_true rfl) (Nat.le_of_ble_eq_true rfl) (Nat.zero_le _) (Nat.zero_le _) (c_Mo_not (a) (0) (9)) (fun E n' C' _ h => by cases h) (fun v n' C' _ h => ?_)
  cases h
  refine gj_top (y := 1) (pm_nt1 h) ?_
  refine gj_if_eq (tgt := 27) d_Mo_weight_20 (by decide) (fun h20 => absurd h20 (by decide)) (fun h20 => ?_)
  refine gj_kc (v := 2) d_Mo_weight_23 (by decide) ?_
  refine gj_goto (tgt := 41) d_Mo_weight_24 (by decide) ?_
  refine gj_put d_Mo_weight_41 gp_Mo_7 m70 (Nat.le_of_ble_eq_true rfl) (fun _ => rfl) (fun _ => rfl) ?_
  obtain ⟨C1, eC1⟩ : ∃ Z0, Z0 = va_up C (70) (.inr (5, [.int (2), .ref (71), .int (nI sg), .int (nI li), .ref (72), .int (nI nl), .ref (73), .int (nI ap), .int (nI ns), .ref (74), .ref (75), .ref (76), .ref (77), .ref (78), .ref (79), .ref (80), .ref (81), .ref (82), .ref (83), .ref (84), .int (nI dy), .ref (85), .ref (86), .ref (87), .ref (88), .ref (89), .ref (90)])) := ⟨_, rfl⟩
  refine gj_mem eC1 ?_
  have f2 : C1 (70) = .inr (5, [.int (2), .ref (71), .int (nI sg), .int (nI li), .ref (72), .int (nI nl), .ref (73), .int (nI ap), .int (nI ns), .ref (74), .ref (75), .ref (76), .ref (77), .ref (78), .ref (79), .ref (80), .ref (81), .ref (82), .ref (83), .ref (84), .int (nI dy), .ref (85), .ref (86), .ref (87), .ref (88), .ref (89), .ref (90)]) := by rw [eC1]; exact va_up_self _ _ _
  have f3 : C1 (74) = .inl (2, 20, .inl go) := by rw [eC1, va_up_ne _ _ (by omega)]; exact m74
  refine gj_aload_n d_Mo_weight_44 rfl ?_
  refine gj_get d_Mo_weight_45 gf_Mo_7 f2 rfl ?_
  refine gj_if_eq (tgt := 55) d_Mo_weight_48 (by decide) (fun h48 => absurd h48 (by decide)) (fun h48 => ?_)
  refine gj_kc (v := 0) d_Mo_weight_51 (by decide) ?_
  refine gj_goto (tgt := 61) d_Mo_weight_52 (by decide) ?_
  refine gj_iret rfl (Nat.zero_le _) (Nat.zero_le _) d_Mo_weight_61 ?_
  exact ⟨rfl, rfl, f2, fun y c0 => by show C1 y = C y; rw [eC1, va_up_ne _ _ (by assumption)]⟩
theorem c_Mo_price_x2 {d K N n sg li nl ap ns dy : Nat} {tc : Int32} {C : Nat → va_E} {go : Nat → Int32} (m70 : C (70) = .inr (5, [.int (tc), .ref (71), .int (nI sg), .int (nI li), .ref (72), .int (nI nl), .ref (73), .int (nI ap), .int (nI ns), .ref (74), .ref (75), .ref (76), .ref (77), .ref (78), .ref (79), .ref (80), .ref (81), .ref (82), .ref (83), .ref (84), .int (nI dy), .ref (85), .ref (86), .ref (87), .ref (88), .ref (89), .ref (90)])) (m74 : C (74) = .inl (2, 20, .inl go)) (hns : ns ≤ 20) {s a : Int32} {j : Nat} (hj : j < ns) (hg : go j = 0) (h : ¬ (0 ≤ a ∧ a ≤ 9)) : gj_G md_Mo_price (d + 1) K N 0 0 0 [(0, .ref (70)), (1, .int (nI j)), (2, .int (a))] [] (n) C (fun r => r.1 = gj_iv 0 ∧ r.2.1 = n ∧ r.2.2 70 = .inr (5, [.int (2), .ref (71), .int (nI sg), .int (nI li), .ref (72), .int (nI nl), .ref (73), .int (nI ap), .int (nI ns), .ref (74), .ref (75), .ref (76), .ref (77), .ref (78), .ref (79), .ref (80), .ref (81), .ref (82), .ref (83), .ref (84), .int (nI dy), .ref (85), .ref (86), .ref (87), .ref (88), .ref (89), .ref (90)]) ∧ ∀ y, y ≠ 70 → r.2.2 y = C y) := by
  refine gj_aload_n d_Mo_price_0 rfl ?_
  refine gj_aload_n d_Mo_price_1 rfl ?_
  refine gj_iload_n d_Mo_price_2 rfl ?_
  refine gj_callV (as := [.int (nI j)]) (rest := [.ref (70)]) (K1 := 0) (N1 := 0) d_Mo_price_3 mo_Mo_noShipment gw_725 gw_727 gw_14 m70 rfl pl_Mo_noShipment (Nat.le_of_ble_eq_true rfl) (Nat.le_of_ble_eq_true rfl) (Nat.zero_le _) (Nat.zero_le _) (c_Mo_noShipment m70 m74 hns hj hg) (fun E n' C' _ h => by cases h) (fun v n' C' _ h => ?_)
  cases h
  refine gj_if_eq (tgt := 13) d_Mo_price_6 (by decide) (fun h6 => ?_) (fun h6 => absurd (by decide) h6)
  refine gj_iload_n d_Mo_price_13 rfl ?_
  refine gj_kc (v := 0) d_Mo_price_14 (by decide) ?_
  refine gj_kb (v := 9) d_Mo_price_15 (by decide) ?_
  refine gj_callS (as := [.int (a), .int (0), .int (9)]) (rest := [.ref (70)]) (K1 := 0) (N1 := 0) d_Mo_price_17 mo_Mo_not gw_687 gw_688 gw_25 pl_Mo_not (Nat.le_of_ble_eq_true rfl) (Nat.le_of_ble_eq_true rfl) (Nat.zero_le _) (Nat.zero_le _) (c_Mo_not (a) (0) (9)) (fun E n' C' _ h => by cases h) (fun v n' C' _ h => ?_)
  cases h
  refine gj_top (y := 1) (pm_nt1 h) ?_
  refine gj_if_eq (tgt := 27) d_Mo_price_20 (by decide) (fun h20 => absurd h20 (by decide)) (fun h20 => ?_)
  refine gj_kc (v := 2) d_Mo_price_23 (by decide) ?_
  refine gj_goto (tgt := 43) d_Mo_price_24 (by decide) ?_
  refine gj_put d_Mo_price_43 gp_Mo_7 m70 (Nat.le_of_ble_eq_true rfl) (fun _ => rfl) (fun _ => rfl) ?_
  obtain ⟨C1, eC1⟩ : ∃ Z0, Z0 = va_up C (70) (.inr (5, [.int (2), .ref (71), .int (nI sg), .int (nI li), .ref (72), .int (nI nl), .ref (73), .int (nI ap), .int (nI ns), .ref (74), .ref (75), .ref (76), .ref (77), .ref (78), .ref (79), .ref (80), .ref (81), .ref (82), .ref (83), .ref (84), .int (nI dy), .ref (85), .ref (86), .ref (87), .ref (88), .ref (89), .ref (90)])) := ⟨_, rfl⟩
  refine gj_mem eC1 ?_
  have f2 : C1 (70) = .inr (5, [.int (2), .ref (71), .int (nI sg), .int (nI li), .ref (72), .int (nI nl), .ref (73), .int (nI ap), .int (nI ns), .ref (74), .ref (75), .ref (76), .ref (77), .ref (78), .ref (79), .ref (80), .ref (81), .ref (82), .ref (83), .ref (84), .int (nI dy), .ref (85), .ref (86), .ref (87), .ref (88), .ref (89), .ref (90)]) := by rw [eC1]; exact va_up_self _ _ _
  have f3 : C1 (74) = .inl (2, 20, .inl go) := by rw [eC1, va_up_ne _ _ (by omega)]; exact m74
  refine gj_aload_n d_Mo_price_46 rfl ?_
  refine gj_get d_Mo_price_47 gf_Mo_7 f2 rfl ?_
  refine gj_if_eq (tgt := 57) d_Mo_price_50 (by decide) (fun h50 => absurd h50 (by decide)) (fun h50 => ?_)
  refine gj_kc (v := 0) d_Mo_price_53 (by decide) ?_
  refine gj_goto (tgt := 63) d_Mo_price_54 (by decide) ?_
  refine gj_iret rfl (Nat.zero_le _) (Nat.zero_le _) d_Mo_price_63 ?_
  exact ⟨rfl, rfl, f2, fun y c0 => by show C1 y = C y; rw [eC1, va_up_ne _ _ (by assumption)]⟩
theorem c_Mo_parcels_x2 {d K N n sg li nl ap ns dy : Nat} {tc : Int32} {C : Nat → va_E} {go : Nat → Int32} (m70 : C (70) = .inr (5, [.int (tc), .ref (71), .int (nI sg), .int (nI li), .ref (72), .int (nI nl), .ref (73), .int (nI ap), .int (nI ns), .ref (74), .ref (75), .ref (76), .ref (77), .ref (78), .ref (79), .ref (80), .ref (81), .ref (82), .ref (83), .ref (84), .int (nI dy), .ref (85), .ref (86), .ref (87), .ref (88), .ref (89), .ref (90)])) (m74 : C (74) = .inl (2, 20, .inl go)) (hns : ns ≤ 20) {s a : Int32} {j : Nat} (hj : j < ns) (hg : go j = 0) (h : ¬ (0 ≤ a ∧ a ≤ 9)) : gj_G md_Mo_parcels (d + 1) K N 0 0 0 [(0, .ref (70)), (1, .int (nI j)), (2, .int (a))] [] (n) C (fun r => r.1 = gj_iv 0 ∧ r.2.1 = n ∧ r.2.2 70 = .inr (5, [.int (2), .ref (71), .int (nI sg), .int (nI li), .ref (72), .int (nI nl), .ref (73), .int (nI ap), .int (nI ns), .ref (74), .ref (75), .ref (76), .ref (77), .ref (78), .ref (79), .ref (80), .ref (81), .ref (82), .ref (83), .ref (84), .int (nI dy), .ref (85), .ref (86), .ref (87), .ref (88), .ref (89), .ref (90)]) ∧ ∀ y, y ≠ 70 → r.2.2 y = C y) := by
  refine gj_aload_n d_Mo_parcels_0 rfl ?_
  refine gj_aload_n d_Mo_parcels_1 rfl ?_
  refine gj_iload_n d_Mo_parcels_2 rfl ?_
  refine gj_callV (as := [.int (nI j)]) (rest := [.ref (70)]) (K1 := 0) (N1 := 0) d_Mo_parcels_3 mo_Mo_noShipment gw_725 gw_727 gw_14 m70 rfl pl_Mo_noShipment (Nat.le_of_ble_eq_true rfl) (Nat.le_of_ble_eq_true rfl) (Nat.zero_le _) (Nat.zero_le _) (c_Mo_noShipment m70 m74 hns hj hg) (fun E n' C' _ h => by cases h) (fun v n' C' _ h => ?_)
  cases h
  refine gj_if_eq (tgt := 13) d_Mo_parcels_6 (by decide) (fun h6 => ?_) (fun h6 => absurd (by decide) h6)
  refine gj_iload_n d_Mo_parcels_13 rfl ?_
  refine gj_kc (v := 0) d_Mo_parcels_14 (by decide) ?_
  refine gj_kb (v := 9) d_Mo_parcels_15 (by decide) ?_
  refine gj_callS (as := [.int (a), .int (0), .int (9)]) (rest := [.ref (70)]) (K1 := 0) (N1 := 0) d_Mo_parcels_17 mo_Mo_not gw_687 gw_688 gw_25 pl_Mo_not (Nat.le_of_ble_eq_true rfl) (Nat.le_of_ble_eq_true rfl) (Nat.zero_le _) (Nat.zero_le _) (c_Mo_not (a) (0) (9)) (fun E n' C' _ h => by cases h) (fun v n' C' _ h => ?_)
  cases h
  refine gj_top (y := 1) (pm_nt1 h) ?_
  refine gj_if_eq (tgt := 27) d_Mo_parcels_20 (by decide) (fun h20 => absurd h20 (by decide)) (fun h20 => ?_)
  refine gj_kc (v := 2) d_Mo_parcels_23 (by decide) ?_
  refine gj_goto (tgt := 28) d_Mo_parcels_24 (by decide) ?_
  refine gj_put d_Mo_parcels_28 gp_Mo_7 m70 (Nat.le_of_ble_eq_true rfl) (fun _ => rfl) (fun _ => rfl) ?_
  obtain ⟨C1, eC1⟩ : ∃ Z0, Z0 = va_up C (70) (.inr (5, [.int (2), .ref (71), .int (nI sg), .int (nI li), .ref (72), .int (nI nl), .ref (73), .int (nI ap), .int (nI ns), .ref (74), .ref (75), .ref (76), .ref (77), .ref (78), .ref (79), .ref (80), .ref (81), .ref (82), .ref (83), .ref (84), .int (nI dy), .ref (85), .ref (86), .ref (87), .ref (88), .ref (89), .ref (90)])) := ⟨_, rfl⟩
  refine gj_mem eC1 ?_
  have f2 : C1 (70) = .inr (5, [.int (2), .ref (71), .int (nI sg), .int (nI li), .ref (72), .int (nI nl), .ref (73), .int (nI ap), .int (nI ns), .ref (74), .ref (75), .ref (76), .ref (77), .ref (78), .ref (79), .ref (80), .ref (81), .ref (82), .ref (83), .ref (84), .int (nI dy), .ref (85), .ref (86), .ref (87), .ref (88), .ref (89), .ref (90)]) := by rw [eC1]; exact va_up_self _ _ _
  have f3 : C1 (74) = .inl (2, 20, .inl go) := by rw [eC1, va_up_ne _ _ (by omega)]; exact m74
  refine gj_aload_n d_Mo_parcels_31 rfl ?_
  refine gj_get d_Mo_parcels_32 gf_Mo_7 f2 rfl ?_
  refine gj_if_eq (tgt := 40) d_Mo_parcels_35 (by decide) (fun h35 => absurd h35 (by decide)) (fun h35 => ?_)
  refine gj_kc (v := 0) d_Mo_parcels_38 (by decide) ?_
  refine gj_iret rfl (Nat.zero_le _) (Nat.zero_le _) d_Mo_parcels_39 ?_
  exact ⟨rfl, rfl, f2, fun y c0 => by show C1 y = C y; rw [eC1, va_up_ne _ _ (by assumption)]⟩
theorem c_Mo_book_x2 {d K N n sg li nl ap ns dy : Nat} {tc : Int32} {C : Nat → va_E} {go : Nat → Int32} (m70 : C (70) = .inr (5, [.int (tc), .ref (71), .int (nI sg), .int (nI li), .ref (72), .int (nI nl), .ref (73), .int (nI ap), .int (nI ns), .ref (74), .ref (75), .ref (76), .ref (77), .ref (78), .ref (79), .ref (80), .ref (81), .ref (82), .ref (83), .ref (84), .int (nI dy), .ref (85), .ref (86), .ref (87), .ref (88), .ref (89), .ref (90)])) (m74 : C (74) = .inl (2, 20, .inl go)) (hns : ns ≤ 20) {s a : Int32} {j : Nat} (hj : j < ns) (hg : go j = 0) (h : ¬ (0 ≤ a ∧ a ≤ 9)) : gj_G md_Mo_book (d + 1) K N 0 0 0 [(0, .ref (70)), (1, .int (nI j)), (2, .int (a))] [] (n) C (fun r => r.1 = gj_iv 0 ∧ r.2.1 = n ∧ r.2.2 70 = .inr (5, [.int (2), .ref (71), .int (nI sg), .int (nI li), .ref (72), .int (nI nl), .ref (73), .int (nI ap), .int (nI ns), .ref (74), .ref (75), .ref (76), .ref (77), .ref (78), .ref (79), .ref (80), .ref (81), .ref (82), .ref (83), .ref (84), .int (nI dy), .ref (85), .ref (86), .ref (87), .ref (88), .ref (89), .ref (90)]) ∧ ∀ y, y ≠ 70 → r.2.2 y = C y) := by
  refine gj_aload_n d_Mo_book_0 rfl ?_
  refine gj_aload_n d_Mo_book_1 rfl ?_
  refine gj_iload_n d_Mo_book_2 rfl ?_
  refine gj_callV (as := [.int (nI j)]) (rest := [.ref (70)]) (K1 := 0) (N1 := 0) d_Mo_book_3 mo_Mo_noShipment gw_725 gw_727 gw_14 m70 rfl pl_Mo_noShipment (Nat.le_of_ble_eq_true rfl) (Nat.le_of_ble_eq_true rfl) (Nat.zero_le _) (Nat.zero_le _) (c_Mo_noShipment m70 m74 hns hj hg) (fun E n' C' _ h => by cases h) (fun v n' C' _ h => ?_)
  cases h
  refine gj_if_eq (tgt := 13) d_Mo_book_6 (by decide) (fun h6 => ?_) (fun h6 => absurd (by decide) h6)
  refine gj_iload_n d_Mo_book_13 rfl ?_
  refine gj_kc (v := 0) d_Mo_book_14 (by decide) ?_
  refine gj_kb (v := 9) d_Mo_book_15 (by decide) ?_
  refine gj_callS (as := [.int (a), .int (0), .int (9)]) (rest := [.ref (70)]) (K1 := 0) (N1 := 0) d_Mo_book_17 mo_Mo_not gw_687 gw_688 gw_25 pl_Mo_not (Nat.le_of_ble_eq_true rfl) (Nat.le_of_ble_eq_true rfl) (Nat.zero_le _) (Nat.zero_le _) (c_Mo_not (a) (0) (9)) (fun E n' C' _ h => by cases h) (fun v n' C' _ h => ?_)
  cases h
  refine gj_top (y := 1) (pm_nt1 h) ?_
  refine gj_if_eq (tgt := 27) d_Mo_book_20 (by decide) (fun h20 => absurd h20 (by decide)) (fun h20 => ?_)
  refine gj_kc (v := 2) d_Mo_book_23 (by decide) ?_
  refine gj_goto (tgt := 41) d_Mo_book_24 (by decide) ?_
  refine gj_put d_Mo_book_41 gp_Mo_7 m70 (Nat.le_of_ble_eq_true rfl) (fun _ => rfl) (fun _ => rfl) ?_
  obtain ⟨C1, eC1⟩ : ∃ Z0, Z0 = va_up C (70) (.inr (5, [.int (2), .ref (71), .int (nI sg), .int (nI li), .ref (72), .int (nI nl), .ref (73), .int (nI ap), .int (nI ns), .ref (74), .ref (75), .ref (76), .ref (77), .ref (78), .ref (79), .ref (80), .ref (81), .ref (82), .ref (83), .ref (84), .int (nI dy), .ref (85), .ref (86), .ref (87), .ref (88), .ref (89), .ref (90)])) := ⟨_, rfl⟩
  refine gj_mem eC1 ?_
  have f2 : C1 (70) = .inr (5, [.int (2), .ref (71), .int (nI sg), .int (nI li), .ref (72), .int (nI nl), .ref (73), .int (nI ap), .int (nI ns), .ref (74), .ref (75), .ref (76), .ref (77), .ref (78), .ref (79), .ref (80), .ref (81), .ref (82), .ref (83), .ref (84), .int (nI dy), .ref (85), .ref (86), .ref (87), .ref (88), .ref (89), .ref (90)]) := by rw [eC1]; exact va_up_self _ _ _
  have f3 : C1 (74) = .inl (2, 20, .inl go) := by rw [eC1, va_up_ne _ _ (by omega)]; exact m74
  refine gj_aload_n d_Mo_book_44 rfl ?_
  refine gj_get d_Mo_book_45 gf_Mo_7 f2 rfl ?_
  refine gj_if_eq (tgt := 53) d_Mo_book_48 (by decide) (fun h48 => absurd h48 (by decide)) (fun h48 => ?_)
  refine gj_kc (v := 0) d_Mo_book_51 (by decide) ?_
  refine gj_iret rfl (Nat.zero_le _) (Nat.zero_le _) d_Mo_book_52 ?_
  exact ⟨rfl, rfl, f2, fun y c0 => by show C1 y = C y; rw [eC1, va_up_ne _ _ (by assumption)]⟩
theorem c_Mo_invoice_x2 {d K N n sg li nl ap ns dy : Nat} {tc : Int32} {C : Nat → va_E} {go : Nat → Int32} (m70 : C (70) = .inr (5, [.int (tc), .ref (71), .int (nI sg), .int (nI li), .ref (72), .int (nI nl), .ref (73), .int (nI ap), .int (nI ns), .ref (74), .ref (75), .ref (76), .ref (77), .ref (78), .ref (79), .ref (80), .ref (81), .ref (82), .ref (83), .ref (84), .int (nI dy), .ref (85), .ref (86), .ref (87), .ref (88), .ref (89), .ref (90)])) (m74 : C (74) = .inl (2, 20, .inl go)) (hns : ns ≤ 20) {s a : Int32} {j : Nat} (hj : j < ns) (hg : go j = 0) (h : ¬ (0 ≤ a ∧ a ≤ 10000000)) : gj_G md_Mo_invoice (d + 1) K N 0 0 0 [(0, .ref (70)), (1, .int (nI j)), (2, .int (a))] [] (n) C (fun r => r.1 = gj_iv 0 ∧ r.2.1 = n ∧ r.2.2 70 = .inr (5, [.int (2), .ref (71), .int (nI sg), .int (nI li), .ref (72), .int (nI nl), .ref (73), .int (nI ap), .int (nI ns), .ref (74), .ref (75), .ref (76), .ref (77), .ref (78), .ref (79), .ref (80), .ref (81), .ref (82), .ref (83), .ref (84), .int (nI dy), .ref (85), .ref (86), .ref (87), .ref (88), .ref (89), .ref (90)]) ∧ ∀ y, y ≠ 70 → r.2.2 y = C y) := by
  refine gj_aload_n d_Mo_invoice_0 rfl ?_
  refine gj_aload_n d_Mo_invoice_1 rfl ?_
  refine gj_iload_n d_Mo_invoice_2 rfl ?_
  refine gj_callV (as := [.int (nI j)]) (rest := [.ref (70)]) (K1 := 0) (N1 := 0) d_Mo_invoice_3 mo_Mo_noShipment gw_725 gw_727 gw_14 m70 rfl pl_Mo_noShipment (Nat.le_of_ble_eq_true rfl) (Nat.le_of_ble_eq_true rfl) (Nat.zero_le _) (Nat.zero_le _) (c_Mo_noShipment m70 m74 hns hj hg) (fun E n' C' _ h => by cases h) (fun v n' C' _ h => ?_)
  cases h
  refine gj_if_eq (tgt := 13) d_Mo_invoice_6 (by decide) (fun h6 => ?_) (fun h6 => absurd (by decide) h6)
  refine gj_iload_n d_Mo_invoice_13 rfl ?_
  refine gj_kc (v := 0) d_Mo_invoice_14 (by decide) ?_
  refine gj_ldc d_Mo_invoice_15 gw_776 ?_
  refine gj_callS (as := [.int (a), .int (0), .int (10000000)]) (rest := [.ref (70)]) (K1 := 0) (N1 := 0) d_Mo_invoice_17 mo_Mo_not gw_687 gw_688 gw_25 pl_Mo_not (Nat.le_of_ble_eq_true rfl) (Nat.le_of_ble_eq_true rfl) (Nat.zero_le _) (Nat.zero_le _) (c_Mo_not (a) (0) (10000000)) (fun E n' C' _ h => by cases h) (fun v n' C' _ h => ?_)
  cases h
  refine gj_top (y := 1) (pm_nt1 h) ?_
  refine gj_if_eq (tgt := 27) d_Mo_invoice_20 (by decide) (fun h20 => absurd h20 (by decide)) (fun h20 => ?_)
  refine gj_kc (v := 2) d_Mo_invoice_23 (by decide) ?_
  refine gj_goto (tgt := 50) d_Mo_invoice_24 (by decide) ?_
  refine gj_put d_Mo_invoice_50 gp_Mo_7 m70 (Nat.le_of_ble_eq_true rfl) (fun _ => rfl) (fun _ => rfl) ?_
  obtain ⟨C1, eC1⟩ : ∃ Z0, Z0 = va_up C (70) (.inr (5, [.int (2), .ref (71), .int (nI sg), .int (nI li), .ref (72), .int (nI nl), .ref (73), .int (nI ap), .int (nI ns), .ref (74), .ref (75), .ref (76), .ref (77), .ref (78), .ref (79), .ref (80), .ref (81), .ref (82), .ref (83), .ref (84), .int (nI dy), .ref (85), .ref (86), .ref (87), .ref (88), .ref (89), .ref (90)])) := ⟨_, rfl⟩
  refine gj_mem eC1 ?_
  have f2 : C1 (70) = .inr (5, [.int (2), .ref (71), .int (nI sg), .int (nI li), .ref (72), .int (nI nl), .ref (73), .int (nI ap), .int (nI ns), .ref (74), .ref (75), .ref (76), .ref (77), .ref (78), .ref (79), .ref (80), .ref (81), .ref (82), .ref (83), .ref (84), .int (nI dy), .ref (85), .ref (86), .ref (87), .ref (88), .ref (89), .ref (90)]) := by rw [eC1]; exact va_up_self _ _ _
  have f3 : C1 (74) = .inl (2, 20, .inl go) := by rw [eC1, va_up_ne _ _ (by omega)]; exact m74
  refine gj_aload_n d_Mo_invoice_53 rfl ?_
  refine gj_get d_Mo_invoice_54 gf_Mo_7 f2 rfl ?_
  refine gj_if_eq (tgt := 62) d_Mo_invoice_57 (by decide) (fun h57 => absurd h57 (by decide)) (fun h57 => ?_)
  refine gj_kc (v := 0) d_Mo_invoice_60 (by decide) ?_
  refine gj_iret rfl (Nat.zero_le _) (Nat.zero_le _) d_Mo_invoice_61 ?_
  exact ⟨rfl, rfl, f2, fun y c0 => by show C1 y = C y; rw [eC1, va_up_ne _ _ (by assumption)]⟩
theorem c_Mo_refund_x2 {d K N n sg li nl ap ns dy : Nat} {tc : Int32} {C : Nat → va_E} {go : Nat → Int32} (m70 : C (70) = .inr (5, [.int (tc), .ref (71), .int (nI sg), .int (nI li), .ref (72), .int (nI nl), .ref (73), .int (nI ap), .int (nI ns), .ref (74), .ref (75), .ref (76), .ref (77), .ref (78), .ref (79), .ref (80), .ref (81), .ref (82), .ref (83), .ref (84), .int (nI dy), .ref (85), .ref (86), .ref (87), .ref (88), .ref (89), .ref (90)])) (m74 : C (74) = .inl (2, 20, .inl go)) (hns : ns ≤ 20) {s a : Int32} {j : Nat} (hj : j < ns) (hg : go j = 0) (h : ¬ (1 ≤ a ∧ a ≤ 10000000)) : gj_G md_Mo_refund (d + 1) K N 0 0 0 [(0, .ref (70)), (1, .int (nI j)), (2, .int (a))] [] (n) C (fun r => r.1 = gj_iv 0 ∧ r.2.1 = n ∧ r.2.2 70 = .inr (5, [.int (2), .ref (71), .int (nI sg), .int (nI li), .ref (72), .int (nI nl), .ref (73), .int (nI ap), .int (nI ns), .ref (74), .ref (75), .ref (76), .ref (77), .ref (78), .ref (79), .ref (80), .ref (81), .ref (82), .ref (83), .ref (84), .int (nI dy), .ref (85), .ref (86), .ref (87), .ref (88), .ref (89), .ref (90)]) ∧ ∀ y, y ≠ 70 → r.2.2 y = C y) := by
  refine gj_aload_n d_Mo_refund_0 rfl ?_
  refine gj_aload_n d_Mo_refund_1 rfl ?_
  refine gj_iload_n d_Mo_refund_2 rfl ?_
  refine gj_callV (as := [.int (nI j)]) (rest := [.ref (70)]) (K1 := 0) (N1 := 0) d_Mo_refund_3 mo_Mo_noShipment gw_725 gw_727 gw_14 m70 rfl pl_Mo_noShipment (Nat.le_of_ble_eq_true rfl) (Nat.le_of_ble_eq_true rfl) (Nat.zero_le _) (Nat.zero_le _) (c_Mo_noShipment m70 m74 hns hj hg) (fun E n' C' _ h => by cases h) (fun v n' C' _ h => ?_)
  cases h
  refine gj_if_eq (tgt := 13) d_Mo_refund_6 (by decide) (fun h6 => ?_) (fun h6 => absurd (by decide) h6)
  refine gj_iload_n d_Mo_refund_13 rfl ?_
  refine gj_kc (v := 1) d_Mo_refund_14 (by decide) ?_
  refine gj_ldc d_Mo_refund_15 gw_776 ?_
  refine gj_callS (as := [.int (a), .int (1), .int (10000000)]) (rest := [.ref (70)]) (K1 := 0) (N1 := 0) d_Mo_refund_17 mo_Mo_not gw_687 gw_688 gw_25 pl_Mo_not (Nat.le_of_ble_eq_true rfl) (Nat.le_of_ble_eq_true rfl) (Nat.zero_le _) (Nat.zero_le _) (c_Mo_not (a) (1) (10000000)) (fun E n' C' _ h => by cases h) (fun v n' C' _ h => ?_)
  cases h
  refine gj_top (y := 1) (pm_nt1 h) ?_
  refine gj_if_eq (tgt := 27) d_Mo_refund_20 (by decide) (fun h20 => absurd h20 (by decide)) (fun h20 => ?_)
  refine gj_kc (v := 2) d_Mo_refund_23 (by decide) ?_
  refine gj_goto (tgt := 42) d_Mo_refund_24 (by decide) ?_
  refine gj_put d_Mo_refund_42 gp_Mo_7 m70 (Nat.le_of_ble_eq_true rfl) (fun _ => rfl) (fun _ => rfl) ?_
  obtain ⟨C1, eC1⟩ : ∃ Z0, Z0 = va_up C (70) (.inr (5, [.int (2), .ref (71), .int (nI sg), .int (nI li), .ref (72), .int (nI nl), .ref (73), .int (nI ap), .int (nI ns), .ref (74), .ref (75), .ref (76), .ref (77), .ref (78), .ref (79), .ref (80), .ref (81), .ref (82), .ref (83), .ref (84), .int (nI dy), .ref (85), .ref (86), .ref (87), .ref (88), .ref (89), .ref (90)])) := ⟨_, rfl⟩
  refine gj_mem eC1 ?_
  have f2 : C1 (70) = .inr (5, [.int (2), .ref (71), .int (nI sg), .int (nI li), .ref (72), .int (nI nl), .ref (73), .int (nI ap), .int (nI ns), .ref (74), .ref (75), .ref (76), .ref (77), .ref (78), .ref (79), .ref (80), .ref (81), .ref (82), .ref (83), .ref (84), .int (nI dy), .ref (85), .ref (86), .ref (87), .ref (88), .ref (89), .ref (90)]) := by rw [eC1]; exact va_up_self _ _ _
  have f3 : C1 (74) = .inl (2, 20, .inl go) := by rw [eC1, va_up_ne _ _ (by omega)]; exact m74
  refine gj_aload_n d_Mo_refund_45 rfl ?_
  refine gj_get d_Mo_refund_46 gf_Mo_7 f2 rfl ?_
  refine gj_if_eq (tgt := 54) d_Mo_refund_49 (by decide) (fun h49 => absurd h49 (by decide)) (fun h49 => ?_)
  refine gj_kc (v := 0) d_Mo_refund_52 (by decide) ?_
  refine gj_iret rfl (Nat.zero_le _) (Nat.zero_le _) d_Mo_refund_53 ?_
  exact ⟨rfl, rfl, f2, fun y c0 => by show C1 y = C y; rw [eC1, va_up_ne _ _ (by assumption)]⟩
theorem c_Mo_told_x2 {d K N n sg li nl ap ns dy : Nat} {tc : Int32} {C : Nat → va_E} {go : Nat → Int32} (m70 : C (70) = .inr (5, [.int (tc), .ref (71), .int (nI sg), .int (nI li), .ref (72), .int (nI nl), .ref (73), .int (nI ap), .int (nI ns), .ref (74), .ref (75), .ref (76), .ref (77), .ref (78), .ref (79), .ref (80), .ref (81), .ref (82), .ref (83), .ref (84), .int (nI dy), .ref (85), .ref (86), .ref (87), .ref (88), .ref (89), .ref (90)])) (m74 : C (74) = .inl (2, 20, .inl go)) (hns : ns ≤ 20) {s a : Int32} {j : Nat} (hj : j < ns) (hg : go j = 0) (h : ¬ (0 ≤ a ∧ a ≤ 5)) : gj_G md_Mo_told (d + 1) K N 0 0 0 [(0, .ref (70)), (1, .int (nI j)), (2, .int (a))] [] (n) C (fun r => r.1 = gj_iv 0 ∧ r.2.1 = n ∧ r.2.2 70 = .inr (5, [.int (2), .ref (71), .int (nI sg), .int (nI li), .ref (72), .int (nI nl), .ref (73), .int (nI ap), .int (nI ns), .ref (74), .ref (75), .ref (76), .ref (77), .ref (78), .ref (79), .ref (80), .ref (81), .ref (82), .ref (83), .ref (84), .int (nI dy), .ref (85), .ref (86), .ref (87), .ref (88), .ref (89), .ref (90)]) ∧ ∀ y, y ≠ 70 → r.2.2 y = C y) := by
  refine gj_aload_n d_Mo_told_0 rfl ?_
  refine gj_aload_n d_Mo_told_1 rfl ?_
  refine gj_iload_n d_Mo_told_2 rfl ?_
  refine gj_callV (as := [.int (nI j)]) (rest := [.ref (70)]) (K1 := 0) (N1 := 0) d_Mo_told_3 mo_Mo_noShipment gw_725 gw_727 gw_14 m70 rfl pl_Mo_noShipment (Nat.le_of_ble_eq_true rfl) (Nat.le_of_ble_eq_true rfl) (Nat.zero_le _) (Nat.zero_le _) (c_Mo_noShipment m70 m74 hns hj hg) (fun E n' C' _ h => by cases h) (fun v n' C' _ h => ?_)
  cases h
  refine gj_if_eq (tgt := 13) d_Mo_told_6 (by decide) (fun h6 => ?_) (fun h6 => absurd (by decide) h6)
  refine gj_iload_n d_Mo_told_13 rfl ?_
  refine gj_kc (v := 0) d_Mo_told_14 (by decide) ?_
  refine gj_kc (v := 5) d_Mo_told_15 (by decide) ?_
  refine gj_callS (as := [.int (a), .int (0), .int (5)]) (rest := [.ref (70)]) (K1 := 0) (N1 := 0) d_Mo_told_16 mo_Mo_not gw_687 gw_688 gw_25 pl_Mo_not (Nat.le_of_ble_eq_true rfl) (Nat.le_of_ble_eq_true rfl) (Nat.zero_le _) (Nat.zero_le _) (c_Mo_not (a) (0) (5)) (fun E n' C' _ h => by cases h) (fun v n' C' _ h => ?_)
  cases h
  refine gj_top (y := 1) (pm_nt1 h) ?_
  refine gj_if_eq (tgt := 26) d_Mo_told_19 (by decide) (fun h19 => absurd h19 (by decide)) (fun h19 => ?_)
  refine gj_kc (v := 2) d_Mo_told_22 (by decide) ?_
  refine gj_goto (tgt := 27) d_Mo_told_23 (by decide) ?_
  refine gj_put d_Mo_told_27 gp_Mo_7 m70 (Nat.le_of_ble_eq_true rfl) (fun _ => rfl) (fun _ => rfl) ?_
  obtain ⟨C1, eC1⟩ : ∃ Z0, Z0 = va_up C (70) (.inr (5, [.int (2), .ref (71), .int (nI sg), .int (nI li), .ref (72), .int (nI nl), .ref (73), .int (nI ap), .int (nI ns), .ref (74), .ref (75), .ref (76), .ref (77), .ref (78), .ref (79), .ref (80), .ref (81), .ref (82), .ref (83), .ref (84), .int (nI dy), .ref (85), .ref (86), .ref (87), .ref (88), .ref (89), .ref (90)])) := ⟨_, rfl⟩
  refine gj_mem eC1 ?_
  have f2 : C1 (70) = .inr (5, [.int (2), .ref (71), .int (nI sg), .int (nI li), .ref (72), .int (nI nl), .ref (73), .int (nI ap), .int (nI ns), .ref (74), .ref (75), .ref (76), .ref (77), .ref (78), .ref (79), .ref (80), .ref (81), .ref (82), .ref (83), .ref (84), .int (nI dy), .ref (85), .ref (86), .ref (87), .ref (88), .ref (89), .ref (90)]) := by rw [eC1]; exact va_up_self _ _ _
  have f3 : C1 (74) = .inl (2, 20, .inl go) := by rw [eC1, va_up_ne _ _ (by omega)]; exact m74
  refine gj_aload_n d_Mo_told_30 rfl ?_
  refine gj_get d_Mo_told_31 gf_Mo_7 f2 rfl ?_
  refine gj_if_eq (tgt := 39) d_Mo_told_34 (by decide) (fun h34 => absurd h34 (by decide)) (fun h34 => ?_)
  refine gj_kc (v := 0) d_Mo_told_37 (by decide) ?_
  refine gj_iret rfl (Nat.zero_le _) (Nat.zero_le _) d_Mo_told_38 ?_
  exact ⟨rfl, rfl, f2, fun y c0 => by show C1 y = C y; rw [eC1, va_up_ne _ _ (by assumption)]⟩
theorem pm_of {a : Nat} (h : a < 10) : 0 ≤ nI a ∧ nI a ≤ 9 := ⟨nI_pos' (by omega), (nI_leI (b := 9) (by omega) (by decide)).mpr (by omega)⟩
set_option maxHeartbeats 2000000 in
theorem c_Mo_weight_x3 {d K N n sg li nl ap ns dy : Nat} {tc : Int32} {C : Nat → va_E} {lr go gr vo : Nat → Int32} (m70 : C (70) = .inr (5, [.int (tc), .ref (71), .int (nI sg), .int (nI li), .ref (72), .int (nI nl), .ref (73), .int (nI ap), .int (nI ns), .ref (74), .ref (75), .ref (76), .ref (77), .ref (78), .ref (79), .ref (80), .ref (81), .ref (82), .ref (83), .ref (84), .int (nI dy), .ref (85), .ref (86), .ref (87), .ref (88), .ref (89), .ref (90)])) (m72 : C (72) = .inl (0, 300, .inl lr)) (m74 : C (74) = .inl (2, 20, .inl go)) (m76 : C (76) = .inl (0, 20, .inl gr)) (m77 : C (77) = .inl (0, 20, .inl vo)) (hns : ns ≤ 20) (hli : li ≤ 60) {j a : Nat} (hj : j < ns) (hg : go j = 0) (ha : a < 10) (hw : pm_tp lr (gr j) (vo j) (pl_fd lr 68 (nI a) li 0) < 0) : gj_G md_Mo_weight (d + 2) K N 0 0 0 [(0, .ref (70)), (1, .int (nI j)), (2, .int (nI a))] [] (n) C (fun r => r.1 = gj_iv 0 ∧ r.2.1 = n ∧ r.2.2 70 = .inr (5, [.int (3), .ref (71), .int (nI sg), .int (nI li), .ref (72), .int (nI nl), .ref (73), .int (nI ap), .int (nI ns), .ref (74), .ref (75), .ref (76), .ref (77), .ref (78), .ref (79), .ref (80), .ref (81), .ref (82), .ref (83), .ref (84), .int (nI dy), .ref (85), .ref (86), .ref (87), .ref (88), .ref (89), .ref (90)]) ∧ ∀ y, y ≠ 70 → r.2.2 y = C y) := by
  refine gj_aload_n d_Mo_weight_0 rfl ?_
  refine gj_aload_n d_Mo_weight_1 rfl ?_
  refine gj_iload_n d_Mo_weight_2 rfl ?_
  refine gj_callV (as := [.int (nI j)]) (rest := [.ref (70)]) (K1 := 0) (N1 := 0) d_Mo_weight_3 mo_Mo_noShipment gw_725 gw_727 gw_14 m70 rfl pl_Mo_noShipment (Nat.le_of_ble_eq_true rfl) (Nat.le_of_ble_eq_true rfl) (Nat.zero_le _) (Nat.zero_le _) (c_Mo_noShipment m70 m74 hns hj hg) (fun E n' C' _ h => by cases h) (fun v n' C' _ h => ?_)
  cases h
  refine gj_if_eq (tgt := 13) d_Mo_weight_6 (by decide) (fun h6 => ?_) (fun h6 => absurd (by decide) h6)
  refine gj_iload_n d_Mo_weight_13 rfl ?_
  refine gj_kc (v := 0) d_Mo_weight_14 (by decide) ?_
  refine gj_kb (v := 9) d_Mo_weight_15 (by decide) ?_
  refine gj_callS (as := [.int (nI a), .int (0), .int (9)]) (rest := [.ref (70)]) (K1 := 0) (N1 := 0) d_Mo_weight_17 mo_Mo_not gw_687 gw_688 gw_25 pl_Mo_not (Nat.le_of_ble_eq_true rfl) (Nat.le_of_ble_eq_true rfl) (Nat.zero_le _) (Nat.zero_le _) (c_Mo_not (nI a) (0) (9)) (fun E n' C' _ h => by cases h) (fun v n' C' _ h => ?_)
  cases h
  refine gj_top (y := 0) (pm_nt0 (pm_of ha)) ?_
  refine gj_if_eq (tgt := 27) d_Mo_weight_20 (by decide) (fun h20 => ?_) (fun h20 => absurd (by decide) h20)
  refine gj_aload_n d_Mo_weight_27 rfl ?_
  refine gj_iload_n d_Mo_weight_28 rfl ?_
  refine gj_iload_n d_Mo_weight_29 rfl ?_
  refine gj_callV (as := [.int (nI j), .int (nI a)]) (rest := [.ref (70)]) (K1 := 0) (N1 := 0) d_Mo_weight_30 mo_Mo_toPay gw_729 gw_731 gw_15 m70 rfl pl_Mo_toPay (Nat.le_of_ble_eq_true rfl) (Nat.le_of_ble_eq_true rfl) (Nat.zero_le _) (Nat.zero_le _) (c_Mo_toPay m70 m72 m76 m77 hli (by omega)) (fun E n' C' _ h => by cases h) (fun v n' C' _ h => ?_)
  cases h
  refine gj_if_ge (tgt := 40) d_Mo_weight_33 (by decide) (fun h33 => absurd h33 (Int32.not_le.mpr hw)) (fun h33 => ?_)
  refine gj_kc (v := 3) d_Mo_weight_36 (by decide) ?_
  refine gj_goto (tgt := 41) d_Mo_weight_37 (by decide) ?_
  refine gj_put d_Mo_weight_41 gp_Mo_7 m70 (Nat.le_of_ble_eq_true rfl) (fun _ => rfl) (fun _ => rfl) ?_
  obtain ⟨C1, eC1⟩ : ∃ Z0, Z0 = va_up C (70) (.inr (5, [.int (3), .ref (71), .int (nI sg), .int (nI li), .ref (72), .int (nI nl), .ref (73), .int (nI ap), .int (nI ns), .ref (74), .ref (75), .ref (76), .ref (77), .ref (78), .ref (79), .ref (80), .ref (81), .ref (82), .ref (83), .ref (84), .int (nI dy), .ref (85), .ref (86), .ref (87), .ref (88), .ref (89), .ref (90)])) := ⟨_, rfl⟩
  refine gj_mem eC1 ?_
  have f2 : C1 (70) = .inr (5, [.int (3), .ref (71), .int (nI sg), .int (nI li), .ref (72), .int (nI nl), .ref (73), .int (nI ap), .int (nI ns), .ref (74), .ref (75), .ref (76), .ref (77), .ref (78), .ref (79), .ref (80), .ref (81), .ref (82), .ref (83), .ref (84), .int (nI dy), .ref (85), .ref (86), .ref (87), .ref (88), .ref (89), .ref (90)]) := by rw [eC1]; exact va_up_self _ _ _
  have f3 : C1 (72) = .inl (0, 300, .inl lr) := by rw [eC1, va_up_ne _ _ (by omega)]; exact m72
  have f4 : C1 (74) = .inl (2, 20, .inl go) := by rw [eC1, va_up_ne _ _ (by omega)]; exact m74
  have f5 : C1 (76) = .inl (0, 20, .inl gr) := by rw [eC1, va_up_ne _ _ (by omega)]; exact m76
  have f6 : C1 (77) = .inl (0, 20, .inl vo) := by rw [eC1, va_up_ne _ _ (by omega)]; exact m77
  refine gj_aload_n d_Mo_weight_44 rfl ?_
  refine gj_get d_Mo_weight_45 gf_Mo_7 f2 rfl ?_
  refine gj_if_eq (tgt := 55) d_Mo_weight_48 (by decide) (fun h48 => absurd h48 (by decide)) (fun h48 => ?_)
  refine gj_kc (v := 0) d_Mo_weight_51 (by decide) ?_
  refine gj_goto (tgt := 61) d_Mo_weight_52 (by decide) ?_
  refine gj_iret rfl (Nat.zero_le _) (Nat.zero_le _) d_Mo_weight_61 ?_
  exact ⟨rfl, rfl, f2, fun y c0 => by show C1 y = C y; rw [eC1, va_up_ne _ _ (by assumption)]⟩
set_option maxHeartbeats 2000000 in
theorem c_Mo_weight {d K N n sg li nl ap ns dy : Nat} {tc : Int32} {C : Nat → va_E} {lr go gr vo : Nat → Int32} (m70 : C (70) = .inr (5, [.int (tc), .ref (71), .int (nI sg), .int (nI li), .ref (72), .int (nI nl), .ref (73), .int (nI ap), .int (nI ns), .ref (74), .ref (75), .ref (76), .ref (77), .ref (78), .ref (79), .ref (80), .ref (81), .ref (82), .ref (83), .ref (84), .int (nI dy), .ref (85), .ref (86), .ref (87), .ref (88), .ref (89), .ref (90)])) (m72 : C (72) = .inl (0, 300, .inl lr)) (m74 : C (74) = .inl (2, 20, .inl go)) (m76 : C (76) = .inl (0, 20, .inl gr)) (m77 : C (77) = .inl (0, 20, .inl vo)) (hns : ns ≤ 20) (hli : li ≤ 60) {j a : Nat} (hj : j < ns) (hg : go j = 0) (ha : a < 10) (hw : ¬ pm_tp lr (gr j) (vo j) (pl_fd lr 68 (nI a) li 0) < 0) : gj_G md_Mo_weight (d + 2) K N 0 0 0 [(0, .ref (70)), (1, .int (nI j)), (2, .int (nI a))] [] (n) C (fun r => r.1 = gj_iv (pm_tp lr (gr j) (vo j) (pl_fd lr 68 (nI a) li 0)) ∧ r.2.1 = n ∧ r.2.2 70 = .inr (5, [.int (0), .ref (71), .int (nI sg), .int (nI li), .ref (72), .int (nI nl), .ref (73), .int (nI ap), .int (nI ns), .ref (74), .ref (75), .ref (76), .ref (77), .ref (78), .ref (79), .ref (80), .ref (81), .ref (82), .ref (83), .ref (84), .int (nI dy), .ref (85), .ref (86), .ref (87), .ref (88), .ref (89), .ref (90)]) ∧ ∀ y, y ≠ 70 → r.2.2 y = C y) := by
  refine gj_aload_n d_Mo_weight_0 rfl ?_
  refine gj_aload_n d_Mo_weight_1 rfl ?_
  refine gj_iload_n d_Mo_weight_2 rfl ?_
  refine gj_callV (as := [.int (nI j)]) (rest := [.ref (70)]) (K1 := 0) (N1 := 0) d_Mo_weight_3 mo_Mo_noShipment gw_725 gw_727 gw_14 m70 rfl pl_Mo_noShipment (Nat.le_of_ble_eq_true rfl) (Nat.le_of_ble_eq_true rfl) (Nat.zero_le _) (Nat.zero_le _) (c_Mo_noShipment m70 m74 hns hj hg) (fun E n' C' _ h => by cases h) (fun v n' C' _ h => ?_)
  cases h
  refine gj_if_eq (tgt := 13) d_Mo_weight_6 (by decide) (fun h6 => ?_) (fun h6 => absurd (by decide) h6)
  refine gj_iload_n d_Mo_weight_13 rfl ?_
  refine gj_kc (v := 0) d_Mo_weight_14 (by decide) ?_
  refine gj_kb (v := 9) d_Mo_weight_15 (by decide) ?_
  refine gj_callS (as := [.int (nI a), .int (0), .int (9)]) (rest := [.ref (70)]) (K1 := 0) (N1 := 0) d_Mo_weight_17 mo_Mo_not gw_687 gw_688 gw_25 pl_Mo_not (Nat.le_of_ble_eq_true rfl) (Nat.le_of_ble_eq_true rfl) (Nat.zero_le _) (Nat.zero_le _) (c_Mo_not (nI a) (0) (9)) (fun E n' C' _ h => by cases h) (fun v n' C' _ h => ?_)
  cases h
  refine gj_top (y := 0) (pm_nt0 (pm_of ha)) ?_
  refine gj_if_eq (tgt := 27) d_Mo_weight_20 (by decide) (fun h20 => ?_) (fun h20 => absurd (by decide) h20)
  refine gj_aload_n d_Mo_weight_27 rfl ?_
  refine gj_iload_n d_Mo_weight_28 rfl ?_
  refine gj_iload_n d_Mo_weight_29 rfl ?_
  refine gj_callV (as := [.int (nI j), .int (nI a)]) (rest := [.ref (70)]) (K1 := 0) (N1 := 0) d_Mo_weight_30 mo_Mo_toPay gw_729 gw_731 gw_15 m70 rfl pl_Mo_toPay (Nat.le_of_ble_eq_true rfl) (Nat.le_of_ble_eq_true rfl) (Nat.zero_le _) (Nat.zero_le _) (c_Mo_toPay m70 m72 m76 m77 hli (by omega)) (fun E n' C' _ h => by cases h) (fun v n' C' _ h => ?_)
  cases h
  refine gj_if_ge (tgt := 40) d_Mo_weight_33 (by decide) (fun h33 => ?_) (fun h33 => absurd (Int32.not_lt.mp hw) h33)
  refine gj_kc (v := 0) d_Mo_weight_40 (by decide) ?_
  refine gj_put d_Mo_weight_41 gp_Mo_7 m70 (Nat.le_of_ble_eq_true rfl) (fun _ => rfl) (fun _ => rfl) ?_
  obtain ⟨C1, eC1⟩ : ∃ Z0, Z0 = va_up C (70) (.inr (5, [.int (0), .ref (71), .int (nI sg), .int (nI li), .ref (72), .int (nI nl), .ref (73), .int (nI ap), .int (nI ns), .ref (74), .ref (75), .ref (76), .ref (77), .ref (78), .ref (79), .ref (80), .ref (81), .ref (82), .ref (83), .ref (84), .int (nI dy), .ref (85), .ref (86), .ref (87), .ref (88), .ref (89), .ref (90)])) := ⟨_, rfl⟩
  refine gj_mem eC1 ?_
  have f2 : C1 (70) = .inr (5, [.int (0), .ref (71), .int (nI sg), .int (nI li), .ref (72), .int (nI nl), .ref (73), .int (nI ap), .int (nI ns), .ref (74), .ref (75), .ref (76), .ref (77), .ref (78), .ref (79), .ref (80), .ref (81), .ref (82), .ref (83), .ref (84), .int (nI dy), .ref (85), .ref (86), .ref (87), .ref (88), .ref (89), .ref (90)]) := by rw [eC1]; exact va_up_self _ _ _
  have f3 : C1 (72) = .inl (0, 300, .inl lr) := by rw [eC1, va_up_ne _ _ (by omega)]; exact m72
  have f4 : C1 (74) = .inl (2, 20, .inl go) := by rw [eC1, va_up_ne _ _ (by omega)]; exact m74
  have f5 : C1 (76) = .inl (0, 20, .inl gr) := by rw [eC1, va_up_ne _ _ (by omega)]; exact m76
  have f6 : C1 (77) = .inl (0, 20, .inl vo) := by rw [eC1, va_up_ne _ _ (by omega)]; exact m77
  refine gj_aload_n d_Mo_weight_44 rfl ?_
  refine gj_get d_Mo_weight_45 gf_Mo_7 f2 rfl ?_
  refine gj_if_eq (tgt := 55) d_Mo_weight_48 (by decide) (fun h48 => ?_) (fun h48 => absurd (by decide) h48)
  refine gj_aload_n d_Mo_weight_55 rfl ?_
  refine gj_iload_n d_Mo_weight_56 rfl ?_
  refine gj_iload_n d_Mo_weight_57 rfl ?_
  refine gj_callV (as := [.int (nI j), .int (nI a)]) (rest := []) (K1 := 0) (N1 := 0) d_Mo_weight_58 mo_Mo_toPay gw_729 gw_731 gw_15 f2 rfl pl_Mo_toPay (Nat.le_of_ble_eq_true rfl) (Nat.le_of_ble_eq_true rfl) (Nat.zero_le _) (Nat.zero_le _) (c_Mo_toPay f2 f3 f5 f6 hli (by omega)) (fun E n' C' _ h => by cases h) (fun v n' C' _ h => ?_)
  cases h
  refine gj_iret rfl (Nat.zero_le _) (Nat.zero_le _) d_Mo_weight_61 ?_
  exact ⟨rfl, rfl, f2, fun y c0 => by show C1 y = C y; rw [eC1, va_up_ne _ _ (by assumption)]⟩
set_option maxHeartbeats 2000000 in
theorem c_Mo_price_x3 {d K N n sg li nl ap ns dy : Nat} {tc : Int32} {C : Nat → va_E} {go : Nat → Int32} (m70 : C (70) = .inr (5, [.int (tc), .ref (71), .int (nI sg), .int (nI li), .ref (72), .int (nI nl), .ref (73), .int (nI ap), .int (nI ns), .ref (74), .ref (75), .ref (76), .ref (77), .ref (78), .ref (79), .ref (80), .ref (81), .ref (82), .ref (83), .ref (84), .int (nI dy), .ref (85), .ref (86), .ref (87), .ref (88), .ref (89), .ref (90)])) (m74 : C (74) = .inl (2, 20, .inl go)) (hns : ns ≤ 20) {j a : Nat} (hj : j < ns) (hg : go j = 0) (ha : a < 10) {P : Int32} (hP : ∀ (C2 : Nat → va_E) (tc : Int32), C2 70 = .inr (5, [.int (tc), .ref (71), .int (nI sg), .int (nI li), .ref (72), .int (nI nl), .ref (73), .int (nI ap), .int (nI ns), .ref (74), .ref (75), .ref (76), .ref (77), .ref (78), .ref (79), .ref (80), .ref (81), .ref (82), .ref (83), .ref (84), .int (nI dy), .ref (85), .ref (86), .ref (87), .ref (88), .ref (89), .ref (90)]) → (∀ y, y ≠ 70 → C2 y = C y) → gj_G md_Mo_priceOf d 0 0 0 0 0 [(0, .ref 70), (1, .int (nI j)), (2, .int (nI a))] [] n C2 (fun r => r = (gj_iv P, n, C2))) (h : P = -2) : gj_G md_Mo_price (d + 1) K N 0 0 0 [(0, .ref (70)), (1, .int (nI j)), (2, .int (nI a))] [] (n) C (fun r => r.1 = gj_iv 0 ∧ r.2.1 = n ∧ r.2.2 70 = .inr (5, [.int (3), .ref (71), .int (nI sg), .int (nI li), .ref (72), .int (nI nl), .ref (73), .int (nI ap), .int (nI ns), .ref (74), .ref (75), .ref (76), .ref (77), .ref (78), .ref (79), .ref (80), .ref (81), .ref (82), .ref (83), .ref (84), .int (nI dy), .ref (85), .ref (86), .ref (87), .ref (88), .ref (89), .ref (90)]) ∧ ∀ y, y ≠ 70 → r.2.2 y = C y) := by
  refine gj_aload_n d_Mo_price_0 rfl ?_
  refine gj_aload_n d_Mo_price_1 rfl ?_
  refine gj_iload_n d_Mo_price_2 rfl ?_
  refine gj_callV (as := [.int (nI j)]) (rest := [.ref (70)]) (K1 := 0) (N1 := 0) d_Mo_price_3 mo_Mo_noShipment gw_725 gw_727 gw_14 m70 rfl pl_Mo_noShipment (Nat.le_of_ble_eq_true rfl) (Nat.le_of_ble_eq_true rfl) (Nat.zero_le _) (Nat.zero_le _) (c_Mo_noShipment m70 m74 hns hj hg) (fun E n' C' _ h => by cases h) (fun v n' C' _ h => ?_)
  cases h
  refine gj_if_eq (tgt := 13) d_Mo_price_6 (by decide) (fun h6 => ?_) (fun h6 => absurd (by decide) h6)
  refine gj_iload_n d_Mo_price_13 rfl ?_
  refine gj_kc (v := 0) d_Mo_price_14 (by decide) ?_
  refine gj_kb (v := 9) d_Mo_price_15 (by decide) ?_
  refine gj_callS (as := [.int (nI a), .int (0), .int (9)]) (rest := [.ref (70)]) (K1 := 0) (N1 := 0) d_Mo_price_17 mo_Mo_not gw_687 gw_688 gw_25 pl_Mo_not (Nat.le_of_ble_eq_true rfl) (Nat.le_of_ble_eq_true rfl) (Nat.zero_le _) (Nat.zero_le _) (c_Mo_not (nI a) (0) (9)) (fun E n' C' _ h => by cases h) (fun v n' C' _ h => ?_)
  cases h
  refine gj_top (y := 0) (pm_nt0 (pm_of ha)) ?_
  refine gj_if_eq (tgt := 27) d_Mo_price_20 (by decide) (fun h20 => ?_) (fun h20 => absurd (by decide) h20)
  refine gj_aload_n d_Mo_price_27 rfl ?_
  refine gj_iload_n d_Mo_price_28 rfl ?_
  refine gj_iload_n d_Mo_price_29 rfl ?_
  refine gj_callV (as := [.int (nI j), .int (nI a)]) (rest := [.ref (70)]) (K1 := 0) (N1 := 0) d_Mo_price_30 mo_Mo_priceOf gw_741 gw_743 gw_17 m70 rfl pl_Mo_priceOf (Nat.le_of_ble_eq_true rfl) (Nat.le_of_ble_eq_true rfl) (Nat.zero_le _) (Nat.zero_le _) (hP C _ m70 (fun _ _ => rfl)) (fun E n' C' _ h => by cases h) (fun v n' C' _ h => ?_)
  cases h
  refine gj_kb (v := (-2)) d_Mo_price_33 (by decide) ?_
  refine gj_icmp_ne (tgt := 42) d_Mo_price_35 (by decide) (fun h35 => absurd (h) h35) (fun h35 => ?_)
  refine gj_kc (v := 3) d_Mo_price_38 (by decide) ?_
  refine gj_goto (tgt := 43) d_Mo_price_39 (by decide) ?_
  refine gj_put d_Mo_price_43 gp_Mo_7 m70 (Nat.le_of_ble_eq_true rfl) (fun _ => rfl) (fun _ => rfl) ?_
  obtain ⟨C1, eC1⟩ : ∃ Z0, Z0 = va_up C (70) (.inr (5, [.int (3), .ref (71), .int (nI sg), .int (nI li), .ref (72), .int (nI nl), .ref (73), .int (nI ap), .int (nI ns), .ref (74), .ref (75), .ref (76), .ref (77), .ref (78), .ref (79), .ref (80), .ref (81), .ref (82), .ref (83), .ref (84), .int (nI dy), .ref (85), .ref (86), .ref (87), .ref (88), .ref (89), .ref (90)])) := ⟨_, rfl⟩
  refine gj_mem eC1 ?_
  have f2 : C1 (70) = .inr (5, [.int (3), .ref (71), .int (nI sg), .int (nI li), .ref (72), .int (nI nl), .ref (73), .int (nI ap), .int (nI ns), .ref (74), .ref (75), .ref (76), .ref (77), .ref (78), .ref (79), .ref (80), .ref (81), .ref (82), .ref (83), .ref (84), .int (nI dy), .ref (85), .ref (86), .ref (87), .ref (88), .ref (89), .ref (90)]) := by rw [eC1]; exact va_up_self _ _ _
  have f3 : C1 (74) = .inl (2, 20, .inl go) := by rw [eC1, va_up_ne _ _ (by omega)]; exact m74
  refine gj_aload_n d_Mo_price_46 rfl ?_
  refine gj_get d_Mo_price_47 gf_Mo_7 f2 rfl ?_
  refine gj_if_eq (tgt := 57) d_Mo_price_50 (by decide) (fun h50 => absurd h50 (by decide)) (fun h50 => ?_)
  refine gj_kc (v := 0) d_Mo_price_53 (by decide) ?_
  refine gj_goto (tgt := 63) d_Mo_price_54 (by decide) ?_
  refine gj_iret rfl (Nat.zero_le _) (Nat.zero_le _) d_Mo_price_63 ?_
  exact ⟨rfl, rfl, f2, fun y c0 => by show C1 y = C y; rw [eC1, va_up_ne _ _ (by assumption)]⟩
set_option maxHeartbeats 2000000 in
theorem c_Mo_price {d K N n sg li nl ap ns dy : Nat} {tc : Int32} {C : Nat → va_E} {go : Nat → Int32} (m70 : C (70) = .inr (5, [.int (tc), .ref (71), .int (nI sg), .int (nI li), .ref (72), .int (nI nl), .ref (73), .int (nI ap), .int (nI ns), .ref (74), .ref (75), .ref (76), .ref (77), .ref (78), .ref (79), .ref (80), .ref (81), .ref (82), .ref (83), .ref (84), .int (nI dy), .ref (85), .ref (86), .ref (87), .ref (88), .ref (89), .ref (90)])) (m74 : C (74) = .inl (2, 20, .inl go)) (hns : ns ≤ 20) {j a : Nat} (hj : j < ns) (hg : go j = 0) (ha : a < 10) {P : Int32} (hP : ∀ (C2 : Nat → va_E) (tc : Int32), C2 70 = .inr (5, [.int (tc), .ref (71), .int (nI sg), .int (nI li), .ref (72), .int (nI nl), .ref (73), .int (nI ap), .int (nI ns), .ref (74), .ref (75), .ref (76), .ref (77), .ref (78), .ref (79), .ref (80), .ref (81), .ref (82), .ref (83), .ref (84), .int (nI dy), .ref (85), .ref (86), .ref (87), .ref (88), .ref (89), .ref (90)]) → (∀ y, y ≠ 70 → C2 y = C y) → gj_G md_Mo_priceOf d 0 0 0 0 0 [(0, .ref 70), (1, .int (nI j)), (2, .int (nI a))] [] n C2 (fun r => r = (gj_iv P, n, C2))) (h : ¬ P = -2) : gj_G md_Mo_price (d + 1) K N 0 0 0 [(0, .ref (70)), (1, .int (nI j)), (2, .int (nI a))] [] (n) C (fun r => r.1 = gj_iv P ∧ r.2.1 = n ∧ r.2.2 70 = .inr (5, [.int (0), .ref (71), .int (nI sg), .int (nI li), .ref (72), .int (nI nl), .ref (73), .int (nI ap), .int (nI ns), .ref (74), .ref (75), .ref (76), .ref (77), .ref (78), .ref (79), .ref (80), .ref (81), .ref (82), .ref (83), .ref (84), .int (nI dy), .ref (85), .ref (86), .ref (87), .ref (88), .ref (89), .ref (90)]) ∧ ∀ y, y ≠ 70 → r.2.2 y = C y) := by
  refine gj_aload_n d_Mo_price_0 rfl ?_
  refine gj_aload_n d_Mo_price_1 rfl ?_
  refine gj_iload_n d_Mo_price_2 rfl ?_
  refine gj_callV (as := [.int (nI j)]) (rest := [.ref (70)]) (K1 := 0) (N1 := 0) d_Mo_price_3 mo_Mo_noShipment gw_725 gw_727 gw_14 m70 rfl pl_Mo_noShipment (Nat.le_of_ble_eq_true rfl) (Nat.le_of_ble_eq_true rfl) (Nat.zero_le _) (Nat.zero_le _) (c_Mo_noShipment m70 m74 hns hj hg) (fun E n' C' _ h => by cases h) (fun v n' C' _ h => ?_)
  cases h
  refine gj_if_eq (tgt := 13) d_Mo_price_6 (by decide) (fun h6 => ?_) (fun h6 => absurd (by decide) h6)
  refine gj_iload_n d_Mo_price_13 rfl ?_
  refine gj_kc (v := 0) d_Mo_price_14 (by decide) ?_
  refine gj_kb (v := 9) d_Mo_price_15 (by decide) ?_
  refine gj_callS (as := [.int (nI a), .int (0), .int (9)]) (rest := [.ref (70)]) (K1 := 0) (N1 := 0) d_Mo_price_17 mo_Mo_not gw_687 gw_688 gw_25 pl_Mo_not (Nat.le_of_ble_eq_true rfl) (Nat.le_of_ble_eq_true rfl) (Nat.zero_le _) (Nat.zero_le _) (c_Mo_not (nI a) (0) (9)) (fun E n' C' _ h => by cases h) (fun v n' C' _ h => ?_)
  cases h
  refine gj_top (y := 0) (pm_nt0 (pm_of ha)) ?_
  refine gj_if_eq (tgt := 27) d_Mo_price_20 (by decide) (fun h20 => ?_) (fun h20 => absurd (by decide) h20)
  refine gj_aload_n d_Mo_price_27 rfl ?_
  refine gj_iload_n d_Mo_price_28 rfl ?_
  refine gj_iload_n d_Mo_price_29 rfl ?_
  refine gj_callV (as := [.int (nI j), .int (nI a)]) (rest := [.ref (70)]) (K1 := 0) (N1 := 0) d_Mo_price_30 mo_Mo_priceOf gw_741 gw_743 gw_17 m70 rfl pl_Mo_priceOf (Nat.le_of_ble_eq_true rfl) (Nat.le_of_ble_eq_true rfl) (Nat.zero_le _) (Nat.zero_le _) (hP C _ m70 (fun _ _ => rfl)) (fun E n' C' _ h => by cases h) (fun v n' C' _ h => ?_)
  cases h
  refine gj_kb (v := (-2)) d_Mo_price_33 (by decide) ?_
  refine gj_icmp_ne (tgt := 42) d_Mo_price_35 (by decide) (fun h35 => ?_) (fun h35 => absurd h35 (h))
  refine gj_kc (v := 0) d_Mo_price_42 (by decide) ?_
  refine gj_put d_Mo_price_43 gp_Mo_7 m70 (Nat.le_of_ble_eq_true rfl) (fun _ => rfl) (fun _ => rfl) ?_
  obtain ⟨C1, eC1⟩ : ∃ Z0, Z0 = va_up C (70) (.inr (5, [.int (0), .ref (71), .int (nI sg), .int (nI li), .ref (72), .int (nI nl), .ref (73), .int (nI ap), .int (nI ns), .ref (74), .ref (75), .ref (76), .ref (77), .ref (78), .ref (79), .ref (80), .ref (81), .ref (82), .ref (83), .ref (84), .int (nI dy), .ref (85), .ref (86), .ref (87), .ref (88), .ref (89), .ref (90)])) := ⟨_, rfl⟩
  refine gj_mem eC1 ?_
  have f2 : C1 (70) = .inr (5, [.int (0), .ref (71), .int (nI sg), .int (nI li), .ref (72), .int (nI nl), .ref (73), .int (nI ap), .int (nI ns), .ref (74), .ref (75), .ref (76), .ref (77), .ref (78), .ref (79), .ref (80), .ref (81), .ref (82), .ref (83), .ref (84), .int (nI dy), .ref (85), .ref (86), .ref (87), .ref (88), .ref (89), .ref (90)]) := by rw [eC1]; exact va_up_self _ _ _
  have f3 : C1 (74) = .inl (2, 20, .inl go) := by rw [eC1, va_up_ne _ _ (by omega)]; exact m74
  refine gj_aload_n d_Mo_price_46 rfl ?_
  refine gj_get d_Mo_price_47 gf_Mo_7 f2 rfl ?_
  refine gj_if_eq (tgt := 57) d_Mo_price_50 (by decide) (fun h50 => ?_) (fun h50 => absurd (by decide) h50)
  refine gj_aload_n d_Mo_price_57 rfl ?_
  refine gj_iload_n d_Mo_price_58 rfl ?_
  refine gj_iload_n d_Mo_price_59 rfl ?_
  refine gj_callV (as := [.int (nI j), .int (nI a)]) (rest := []) (K1 := 0) (N1 := 0) d_Mo_price_60 mo_Mo_priceOf gw_741 gw_743 gw_17 f2 rfl pl_Mo_priceOf (Nat.le_of_ble_eq_true rfl) (Nat.le_of_ble_eq_true rfl) (Nat.zero_le _) (Nat.zero_le _) (hP C1 _ f2 (fun y c0 => by show C1 y = C y; rw [eC1, va_up_ne _ _ (by assumption)])) (fun E n' C' _ h => by cases h) (fun v n' C' _ h => ?_)
  cases h
  refine gj_iret rfl (Nat.zero_le _) (Nat.zero_le _) d_Mo_price_63 ?_
  exact ⟨rfl, rfl, f2, fun y c0 => by show C1 y = C y; rw [eC1, va_up_ne _ _ (by assumption)]⟩
set_option maxHeartbeats 2000000 in
theorem c_Mo_book_x3 {d K N n sg li nl ap ns dy : Nat} {tc : Int32} {C : Nat → va_E} {go se pr : Nat → Int32} (m70 : C (70) = .inr (5, [.int (tc), .ref (71), .int (nI sg), .int (nI li), .ref (72), .int (nI nl), .ref (73), .int (nI ap), .int (nI ns), .ref (74), .ref (75), .ref (76), .ref (77), .ref (78), .ref (79), .ref (80), .ref (81), .ref (82), .ref (83), .ref (84), .int (nI dy), .ref (85), .ref (86), .ref (87), .ref (88), .ref (89), .ref (90)])) (m74 : C (74) = .inl (2, 20, .inl go)) (m78 : C (78) = .inl (0, 20, .inl se)) (m79 : C (79) = .inl (0, 20, .inl pr)) (hns : ns ≤ 20) {j a : Nat} (hj : j < ns) (hg : go j = 0) (ha : a < 10) {P : Int32} (hP : ∀ (C2 : Nat → va_E) (tc : Int32), C2 70 = .inr (5, [.int (tc), .ref (71), .int (nI sg), .int (nI li), .ref (72), .int (nI nl), .ref (73), .int (nI ap), .int (nI ns), .ref (74), .ref (75), .ref (76), .ref (77), .ref (78), .ref (79), .ref (80), .ref (81), .ref (82), .ref (83), .ref (84), .int (nI dy), .ref (85), .ref (86), .ref (87), .ref (88), .ref (89), .ref (90)]) → (∀ y, y ≠ 70 → C2 y = C y) → gj_G md_Mo_priceOf d 0 0 0 0 0 [(0, .ref 70), (1, .int (nI j)), (2, .int (nI a))] [] n C2 (fun r => r = (gj_iv P, n, C2))) (h : 0 ≤ se j) : gj_G md_Mo_book (d + 1) K N 0 0 0 [(0, .ref (70)), (1, .int (nI j)), (2, .int (nI a))] [] (n) C (fun r => r.1 = gj_iv 0 ∧ r.2.1 = n ∧ r.2.2 70 = .inr (5, [.int (3), .ref (71), .int (nI sg), .int (nI li), .ref (72), .int (nI nl), .ref (73), .int (nI ap), .int (nI ns), .ref (74), .ref (75), .ref (76), .ref (77), .ref (78), .ref (79), .ref (80), .ref (81), .ref (82), .ref (83), .ref (84), .int (nI dy), .ref (85), .ref (86), .ref (87), .ref (88), .ref (89), .ref (90)]) ∧ ∀ y, y ≠ 70 → r.2.2 y = C y) := by
  refine gj_aload_n d_Mo_book_0 rfl ?_
  refine gj_aload_n d_Mo_book_1 rfl ?_
  refine gj_iload_n d_Mo_book_2 rfl ?_
  refine gj_callV (as := [.int (nI j)]) (rest := [.ref (70)]) (K1 := 0) (N1 := 0) d_Mo_book_3 mo_Mo_noShipment gw_725 gw_727 gw_14 m70 rfl pl_Mo_noShipment (Nat.le_of_ble_eq_true rfl) (Nat.le_of_ble_eq_true rfl) (Nat.zero_le _) (Nat.zero_le _) (c_Mo_noShipment m70 m74 hns hj hg) (fun E n' C' _ h => by cases h) (fun v n' C' _ h => ?_)
  cases h
  refine gj_if_eq (tgt := 13) d_Mo_book_6 (by decide) (fun h6 => ?_) (fun h6 => absurd (by decide) h6)
  refine gj_iload_n d_Mo_book_13 rfl ?_
  refine gj_kc (v := 0) d_Mo_book_14 (by decide) ?_
  refine gj_kb (v := 9) d_Mo_book_15 (by decide) ?_
  refine gj_callS (as := [.int (nI a), .int (0), .int (9)]) (rest := [.ref (70)]) (K1 := 0) (N1 := 0) d_Mo_book_17 mo_Mo_not gw_687 gw_688 gw_25 pl_Mo_not (Nat.le_of_ble_eq_true rfl) (Nat.le_of_ble_eq_true rfl) (Nat.zero_le _) (Nat.zero_le _) (c_Mo_not (nI a) (0) (9)) (fun E n' C' _ h => by cases h) (fun v n' C' _ h => ?_)
  cases h
  refine gj_top (y := 0) (pm_nt0 (pm_of ha)) ?_
  refine gj_if_eq (tgt := 27) d_Mo_book_20 (by decide) (fun h20 => ?_) (fun h20 => absurd (by decide) h20)
  refine gj_aload_n d_Mo_book_27 rfl ?_
  refine gj_get d_Mo_book_28 gf_Mo_51 m70 rfl ?_
  refine gj_iload_n d_Mo_book_31 rfl ?_
  refine gj_iald d_Mo_book_32 m78 rfl (vp_in_nI (by omega) (by decide)) ?_
  refine gj_top (y := se (j)) (congrArg se (nI_clamp (by omega))) ?_
  refine gj_if_lt (tgt := 40) d_Mo_book_33 (by decide) (fun h33 => absurd h33 (Int32.not_lt.mpr h)) (fun h33 => ?_)
  refine gj_kc (v := 3) d_Mo_book_36 (by decide) ?_
  refine gj_goto (tgt := 41) d_Mo_book_37 (by decide) ?_
  refine gj_put d_Mo_book_41 gp_Mo_7 m70 (Nat.le_of_ble_eq_true rfl) (fun _ => rfl) (fun _ => rfl) ?_
  obtain ⟨C1, eC1⟩ : ∃ Z0, Z0 = va_up C (70) (.inr (5, [.int (3), .ref (71), .int (nI sg), .int (nI li), .ref (72), .int (nI nl), .ref (73), .int (nI ap), .int (nI ns), .ref (74), .ref (75), .ref (76), .ref (77), .ref (78), .ref (79), .ref (80), .ref (81), .ref (82), .ref (83), .ref (84), .int (nI dy), .ref (85), .ref (86), .ref (87), .ref (88), .ref (89), .ref (90)])) := ⟨_, rfl⟩
  refine gj_mem eC1 ?_
  have f2 : C1 (70) = .inr (5, [.int (3), .ref (71), .int (nI sg), .int (nI li), .ref (72), .int (nI nl), .ref (73), .int (nI ap), .int (nI ns), .ref (74), .ref (75), .ref (76), .ref (77), .ref (78), .ref (79), .ref (80), .ref (81), .ref (82), .ref (83), .ref (84), .int (nI dy), .ref (85), .ref (86), .ref (87), .ref (88), .ref (89), .ref (90)]) := by rw [eC1]; exact va_up_self _ _ _
  have f3 : C1 (74) = .inl (2, 20, .inl go) := by rw [eC1, va_up_ne _ _ (by omega)]; exact m74
  have f4 : C1 (78) = .inl (0, 20, .inl se) := by rw [eC1, va_up_ne _ _ (by omega)]; exact m78
  have f5 : C1 (79) = .inl (0, 20, .inl pr) := by rw [eC1, va_up_ne _ _ (by omega)]; exact m79
  refine gj_aload_n d_Mo_book_44 rfl ?_
  refine gj_get d_Mo_book_45 gf_Mo_7 f2 rfl ?_
  refine gj_if_eq (tgt := 53) d_Mo_book_48 (by decide) (fun h48 => absurd h48 (by decide)) (fun h48 => ?_)
  refine gj_kc (v := 0) d_Mo_book_51 (by decide) ?_
  refine gj_iret rfl (Nat.zero_le _) (Nat.zero_le _) d_Mo_book_52 ?_
  exact ⟨rfl, rfl, f2, fun y c0 => by show C1 y = C y; rw [eC1, va_up_ne _ _ (by assumption)]⟩
set_option maxHeartbeats 2000000 in
theorem c_Mo_book_x4 {d K N n sg li nl ap ns dy : Nat} {tc : Int32} {C : Nat → va_E} {go se pr : Nat → Int32} (m70 : C (70) = .inr (5, [.int (tc), .ref (71), .int (nI sg), .int (nI li), .ref (72), .int (nI nl), .ref (73), .int (nI ap), .int (nI ns), .ref (74), .ref (75), .ref (76), .ref (77), .ref (78), .ref (79), .ref (80), .ref (81), .ref (82), .ref (83), .ref (84), .int (nI dy), .ref (85), .ref (86), .ref (87), .ref (88), .ref (89), .ref (90)])) (m74 : C (74) = .inl (2, 20, .inl go)) (m78 : C (78) = .inl (0, 20, .inl se)) (m79 : C (79) = .inl (0, 20, .inl pr)) (hns : ns ≤ 20) {j a : Nat} (hj : j < ns) (hg : go j = 0) (ha : a < 10) {P : Int32} (hP : ∀ (C2 : Nat → va_E) (tc : Int32), C2 70 = .inr (5, [.int (tc), .ref (71), .int (nI sg), .int (nI li), .ref (72), .int (nI nl), .ref (73), .int (nI ap), .int (nI ns), .ref (74), .ref (75), .ref (76), .ref (77), .ref (78), .ref (79), .ref (80), .ref (81), .ref (82), .ref (83), .ref (84), .int (nI dy), .ref (85), .ref (86), .ref (87), .ref (88), .ref (89), .ref (90)]) → (∀ y, y ≠ 70 → C2 y = C y) → gj_G md_Mo_priceOf d 0 0 0 0 0 [(0, .ref 70), (1, .int (nI j)), (2, .int (nI a))] [] n C2 (fun r => r = (gj_iv P, n, C2))) (h : se j < 0) (h2 : P = -2) : gj_G md_Mo_book (d + 1) K N 0 0 0 [(0, .ref (70)), (1, .int (nI j)), (2, .int (nI a))] [] (n) C (fun r => r.1 = gj_iv 0 ∧ r.2.1 = n ∧ r.2.2 70 = .inr (5, [.int (4), .ref (71), .int (nI sg), .int (nI li), .ref (72), .int (nI nl), .ref (73), .int (nI ap), .int (nI ns), .ref (74), .ref (75), .ref (76), .ref (77), .ref (78), .ref (79), .ref (80), .ref (81), .ref (82), .ref (83), .ref (84), .int (nI dy), .ref (85), .ref (86), .ref (87), .ref (88), .ref (89), .ref (90)]) ∧ ∀ y, y ≠ 70 → r.2.2 y = C y) := by
  refine gj_aload_n d_Mo_book_0 rfl ?_
  refine gj_aload_n d_Mo_book_1 rfl ?_
  refine gj_iload_n d_Mo_book_2 rfl ?_
  refine gj_callV (as := [.int (nI j)]) (rest := [.ref (70)]) (K1 := 0) (N1 := 0) d_Mo_book_3 mo_Mo_noShipment gw_725 gw_727 gw_14 m70 rfl pl_Mo_noShipment (Nat.le_of_ble_eq_true rfl) (Nat.le_of_ble_eq_true rfl) (Nat.zero_le _) (Nat.zero_le _) (c_Mo_noShipment m70 m74 hns hj hg) (fun E n' C' _ h => by cases h) (fun v n' C' _ h => ?_)
  cases h
  refine gj_if_eq (tgt := 13) d_Mo_book_6 (by decide) (fun h6 => ?_) (fun h6 => absurd (by decide) h6)
  refine gj_iload_n d_Mo_book_13 rfl ?_
  refine gj_kc (v := 0) d_Mo_book_14 (by decide) ?_
  refine gj_kb (v := 9) d_Mo_book_15 (by decide) ?_
  refine gj_callS (as := [.int (nI a), .int (0), .int (9)]) (rest := [.ref (70)]) (K1 := 0) (N1 := 0) d_Mo_book_17 mo_Mo_not gw_687 gw_688 gw_25 pl_Mo_not (Nat.le_of_ble_eq_true rfl) (Nat.le_of_ble_eq_true rfl) (Nat.zero_le _) (Nat.zero_le _) (c_Mo_not (nI a) (0) (9)) (fun E n' C' _ h => by cases h) (fun v n' C' _ h => ?_)
  cases h
  refine gj_top (y := 0) (pm_nt0 (pm_of ha)) ?_
  refine gj_if_eq (tgt := 27) d_Mo_book_20 (by decide) (fun h20 => ?_) (fun h20 => absurd (by decide) h20)
  refine gj_aload_n d_Mo_book_27 rfl ?_
  refine gj_get d_Mo_book_28 gf_Mo_51 m70 rfl ?_
  refine gj_iload_n d_Mo_book_31 rfl ?_
  refine gj_iald d_Mo_book_32 m78 rfl (vp_in_nI (by omega) (by decide)) ?_
  refine gj_top (y := se (j)) (congrArg se (nI_clamp (by omega))) ?_
  refine gj_if_lt (tgt := 40) d_Mo_book_33 (by decide) (fun h33 => ?_) (fun h33 => absurd (h) h33)
  refine gj_kc (v := 0) d_Mo_book_40 (by decide) ?_
  refine gj_put d_Mo_book_41 gp_Mo_7 m70 (Nat.le_of_ble_eq_true rfl) (fun _ => rfl) (fun _ => rfl) ?_
  obtain ⟨C1, eC1⟩ : ∃ Z0, Z0 = va_up C (70) (.inr (5, [.int (0), .ref (71), .int (nI sg), .int (nI li), .ref (72), .int (nI nl), .ref (73), .int (nI ap), .int (nI ns), .ref (74), .ref (75), .ref (76), .ref (77), .ref (78), .ref (79), .ref (80), .ref (81), .ref (82), .ref (83), .ref (84), .int (nI dy), .ref (85), .ref (86), .ref (87), .ref (88), .ref (89), .ref (90)])) := ⟨_, rfl⟩
  refine gj_mem eC1 ?_
  have f2 : C1 (70) = .inr (5, [.int (0), .ref (71), .int (nI sg), .int (nI li), .ref (72), .int (nI nl), .ref (73), .int (nI ap), .int (nI ns), .ref (74), .ref (75), .ref (76), .ref (77), .ref (78), .ref (79), .ref (80), .ref (81), .ref (82), .ref (83), .ref (84), .int (nI dy), .ref (85), .ref (86), .ref (87), .ref (88), .ref (89), .ref (90)]) := by rw [eC1]; exact va_up_self _ _ _
  have f3 : C1 (74) = .inl (2, 20, .inl go) := by rw [eC1, va_up_ne _ _ (by omega)]; exact m74
  have f4 : C1 (78) = .inl (0, 20, .inl se) := by rw [eC1, va_up_ne _ _ (by omega)]; exact m78
  have f5 : C1 (79) = .inl (0, 20, .inl pr) := by rw [eC1, va_up_ne _ _ (by omega)]; exact m79
  refine gj_aload_n d_Mo_book_44 rfl ?_
  refine gj_get d_Mo_book_45 gf_Mo_7 f2 rfl ?_
  refine gj_if_eq (tgt := 53) d_Mo_book_48 (by decide) (fun h48 => ?_) (fun h48 => absurd (by decide) h48)
  refine gj_aload_n d_Mo_book_53 rfl ?_
  refine gj_iload_n d_Mo_book_54 rfl ?_
  refine gj_iload_n d_Mo_book_55 rfl ?_
  refine gj_callV (as := [.int (nI j), .int (nI a)]) (rest := []) (K1 := 0) (N1 := 0) d_Mo_book_56 mo_Mo_priceOf gw_741 gw_743 gw_17 f2 rfl pl_Mo_priceOf (Nat.le_of_ble_eq_true rfl) (Nat.le_of_ble_eq_true rfl) (Nat.zero_le _) (Nat.zero_le _) (hP C1 _ f2 (fun y c0 => by show C1 y = C y; rw [eC1, va_up_ne _ _ (by assumption)])) (fun E n' C' _ h => by cases h) (fun v n' C' _ h => ?_)
  cases h
  refine gj_istore_n d_Mo_book_59 (by decide) ?_
  refine gj_aload_n d_Mo_book_60 rfl ?_
  refine gj_iload_n d_Mo_book_61 rfl ?_
  refine gj_kb (v := (-2)) d_Mo_book_62 (by decide) ?_
  refine gj_icmp_ne (tgt := 71) d_Mo_book_64 (by decide) (fun h64 => absurd (h2) h64) (fun h64 => ?_)
  refine gj_kc (v := 4) d_Mo_book_67 (by decide) ?_
  refine gj_goto (tgt := 81) d_Mo_book_68 (by decide) ?_
  refine gj_put d_Mo_book_81 gp_Mo_7 f2 (Nat.le_of_ble_eq_true rfl) (fun _ => rfl) (fun _ => rfl) ?_
  obtain ⟨C6, eC6⟩ : ∃ Z0, Z0 = va_up C1 (70) (.inr (5, [.int (4), .ref (71), .int (nI sg), .int (nI li), .ref (72), .int (nI nl), .ref (73), .int (nI ap), .int (nI ns), .ref (74), .ref (75), .ref (76), .ref (77), .ref (78), .ref (79), .ref (80), .ref (81), .ref (82), .ref (83), .ref (84), .int (nI dy), .ref (85), .ref (86), .ref (87), .ref (88), .ref (89), .ref (90)])) := ⟨_, rfl⟩
  refine gj_mem eC6 ?_
  have f7 : C6 (70) = .inr (5, [.int (4), .ref (71), .int (nI sg), .int (nI li), .ref (72), .int (nI nl), .ref (73), .int (nI ap), .int (nI ns), .ref (74), .ref (75), .ref (76), .ref (77), .ref (78), .ref (79), .ref (80), .ref (81), .ref (82), .ref (83), .ref (84), .int (nI dy), .ref (85), .ref (86), .ref (87), .ref (88), .ref (89), .ref (90)]) := by rw [eC6]; exact va_up_self _ _ _
  have f8 : C6 (74) = .inl (2, 20, .inl go) := by rw [eC6, va_up_ne _ _ (by omega)]; exact f3
  have f9 : C6 (78) = .inl (0, 20, .inl se) := by rw [eC6, va_up_ne _ _ (by omega)]; exact f4
  have f10 : C6 (79) = .inl (0, 20, .inl pr) := by rw [eC6, va_up_ne _ _ (by omega)]; exact f5
  refine gj_aload_n d_Mo_book_84 rfl ?_
  refine gj_get d_Mo_book_85 gf_Mo_7 f7 rfl ?_
  refine gj_if_eq (tgt := 93) d_Mo_book_88 (by decide) (fun h88 => absurd h88 (by decide)) (fun h88 => ?_)
  refine gj_kc (v := 0) d_Mo_book_91 (by decide) ?_
  refine gj_iret rfl (Nat.zero_le _) (Nat.zero_le _) d_Mo_book_92 ?_
  exact ⟨rfl, rfl, f7, fun y c0 => by show C6 y = C y; rw [eC6, va_up_ne _ _ (by assumption), eC1, va_up_ne _ _ (by assumption)]⟩
set_option maxHeartbeats 2000000 in
theorem c_Mo_book_x5 {d K N n sg li nl ap ns dy : Nat} {tc : Int32} {C : Nat → va_E} {go se pr : Nat → Int32} (m70 : C (70) = .inr (5, [.int (tc), .ref (71), .int (nI sg), .int (nI li), .ref (72), .int (nI nl), .ref (73), .int (nI ap), .int (nI ns), .ref (74), .ref (75), .ref (76), .ref (77), .ref (78), .ref (79), .ref (80), .ref (81), .ref (82), .ref (83), .ref (84), .int (nI dy), .ref (85), .ref (86), .ref (87), .ref (88), .ref (89), .ref (90)])) (m74 : C (74) = .inl (2, 20, .inl go)) (m78 : C (78) = .inl (0, 20, .inl se)) (m79 : C (79) = .inl (0, 20, .inl pr)) (hns : ns ≤ 20) {j a : Nat} (hj : j < ns) (hg : go j = 0) (ha : a < 10) {P : Int32} (hP : ∀ (C2 : Nat → va_E) (tc : Int32), C2 70 = .inr (5, [.int (tc), .ref (71), .int (nI sg), .int (nI li), .ref (72), .int (nI nl), .ref (73), .int (nI ap), .int (nI ns), .ref (74), .ref (75), .ref (76), .ref (77), .ref (78), .ref (79), .ref (80), .ref (81), .ref (82), .ref (83), .ref (84), .int (nI dy), .ref (85), .ref (86), .ref (87), .ref (88), .ref (89), .ref (90)]) → (∀ y, y ≠ 70 → C2 y = C y) → gj_G md_Mo_priceOf d 0 0 0 0 0 [(0, .ref 70), (1, .int (nI j)), (2, .int (nI a))] [] n C2 (fun r => r = (gj_iv P, n, C2))) (h : se j < 0) (h2 : P = -1) : gj_G md_Mo_book (d + 1) K N 0 0 0 [(0, .ref (70)), (1, .int (nI j)), (2, .int (nI a))] [] (n) C (fun r => r.1 = gj_iv 0 ∧ r.2.1 = n ∧ r.2.2 70 = .inr (5, [.int (3), .ref (71), .int (nI sg), .int (nI li), .ref (72), .int (nI nl), .ref (73), .int (nI ap), .int (nI ns), .ref (74), .ref (75), .ref (76), .ref (77), .ref (78), .ref (79), .ref (80), .ref (81), .ref (82), .ref (83), .ref (84), .int (nI dy), .ref (85), .ref (86), .ref (87), .ref (88), .ref (89), .ref (90)]) ∧ ∀ y, y ≠ 70 → r.2.2 y = C y) := by
  refine gj_aload_n d_Mo_book_0 rfl ?_
  refine gj_aload_n d_Mo_book_1 rfl ?_
  refine gj_iload_n d_Mo_book_2 rfl ?_
  refine gj_callV (as := [.int (nI j)]) (rest := [.ref (70)]) (K1 := 0) (N1 := 0) d_Mo_book_3 mo_Mo_noShipment gw_725 gw_727 gw_14 m70 rfl pl_Mo_noShipment (Nat.le_of_ble_eq_true rfl) (Nat.le_of_ble_eq_true rfl) (Nat.zero_le _) (Nat.zero_le _) (c_Mo_noShipment m70 m74 hns hj hg) (fun E n' C' _ h => by cases h) (fun v n' C' _ h => ?_)
  cases h
  refine gj_if_eq (tgt := 13) d_Mo_book_6 (by decide) (fun h6 => ?_) (fun h6 => absurd (by decide) h6)
  refine gj_iload_n d_Mo_book_13 rfl ?_
  refine gj_kc (v := 0) d_Mo_book_14 (by decide) ?_
  refine gj_kb (v := 9) d_Mo_book_15 (by decide) ?_
  refine gj_callS (as := [.int (nI a), .int (0), .int (9)]) (rest := [.ref (70)]) (K1 := 0) (N1 := 0) d_Mo_book_17 mo_Mo_not gw_687 gw_688 gw_25 pl_Mo_not (Nat.le_of_ble_eq_true rfl) (Nat.le_of_ble_eq_true rfl) (Nat.zero_le _) (Nat.zero_le _) (c_Mo_not (nI a) (0) (9)) (fun E n' C' _ h => by cases h) (fun v n' C' _ h => ?_)
  cases h
  refine gj_top (y := 0) (pm_nt0 (pm_of ha)) ?_
  refine gj_if_eq (tgt := 27) d_Mo_book_20 (by decide) (fun h20 => ?_) (fun h20 => absurd (by decide) h20)
  refine gj_aload_n d_Mo_book_27 rfl ?_
  refine gj_get d_Mo_book_28 gf_Mo_51 m70 rfl ?_
  refine gj_iload_n d_Mo_book_31 rfl ?_
  refine gj_iald d_Mo_book_32 m78 rfl (vp_in_nI (by omega) (by decide)) ?_
  refine gj_top (y := se (j)) (congrArg se (nI_clamp (by omega))) ?_
  refine gj_if_lt (tgt := 40) d_Mo_book_33 (by decide) (fun h33 => ?_) (fun h33 => absurd (h) h33)
  refine gj_kc (v := 0) d_Mo_book_40 (by decide) ?_
  refine gj_put d_Mo_book_41 gp_Mo_7 m70 (Nat.le_of_ble_eq_true rfl) (fun _ => rfl) (fun _ => rfl) ?_
  obtain ⟨C1, eC1⟩ : ∃ Z0, Z0 = va_up C (70) (.inr (5, [.int (0), .ref (71), .int (nI sg), .int (nI li), .ref (72), .int (nI nl), .ref (73), .int (nI ap), .int (nI ns), .ref (74), .ref (75), .ref (76), .ref (77), .ref (78), .ref (79), .ref (80), .ref (81), .ref (82), .ref (83), .ref (84), .int (nI dy), .ref (85), .ref (86), .ref (87), .ref (88), .ref (89), .ref (90)])) := ⟨_, rfl⟩
  refine gj_mem eC1 ?_
  have f2 : C1 (70) = .inr (5, [.int (0), .ref (71), .int (nI sg), .int (nI li), .ref (72), .int (nI nl), .ref (73), .int (nI ap), .int (nI ns), .ref (74), .ref (75), .ref (76), .ref (77), .ref (78), .ref (79), .ref (80), .ref (81), .ref (82), .ref (83), .ref (84), .int (nI dy), .ref (85), .ref (86), .ref (87), .ref (88), .ref (89), .ref (90)]) := by rw [eC1]; exact va_up_self _ _ _
  have f3 : C1 (74) = .inl (2, 20, .inl go) := by rw [eC1, va_up_ne _ _ (by omega)]; exact m74
  have f4 : C1 (78) = .inl (0, 20, .inl se) := by rw [eC1, va_up_ne _ _ (by omega)]; exact m78
  have f5 : C1 (79) = .inl (0, 20, .inl pr) := by rw [eC1, va_up_ne _ _ (by omega)]; exact m79
  refine gj_aload_n d_Mo_book_44 rfl ?_
  refine gj_get d_Mo_book_45 gf_Mo_7 f2 rfl ?_
  refine gj_if_eq (tgt := 53) d_Mo_book_48 (by decide) (fun h48 => ?_) (fun h48 => absurd (by decide) h48)
  refine gj_aload_n d_Mo_book_53 rfl ?_
  refine gj_iload_n d_Mo_book_54 rfl ?_
  refine gj_iload_n d_Mo_book_55 rfl ?_
  refine gj_callV (as := [.int (nI j), .int (nI a)]) (rest := []) (K1 := 0) (N1 := 0) d_Mo_book_56 mo_Mo_priceOf gw_741 gw_743 gw_17 f2 rfl pl_Mo_priceOf (Nat.le_of_ble_eq_true rfl) (Nat.le_of_ble_eq_true rfl) (Nat.zero_le _) (Nat.zero_le _) (hP C1 _ f2 (fun y c0 => by show C1 y = C y; rw [eC1, va_up_ne _ _ (by assumption)])) (fun E n' C' _ h => by cases h) (fun v n' C' _ h => ?_)
  cases h
  refine gj_istore_n d_Mo_book_59 (by decide) ?_
  refine gj_aload_n d_Mo_book_60 rfl ?_
  refine gj_iload_n d_Mo_book_61 rfl ?_
  refine gj_kb (v := (-2)) d_Mo_book_62 (by decide) ?_
  refine gj_icmp_ne (tgt := 71) d_Mo_book_64 (by decide) (fun h64 => ?_) (fun h64 => absurd h64 (by rw [h2]; decide))
  refine gj_iload_n d_Mo_book_71 rfl ?_
  refine gj_kc (v := (-1)) d_Mo_book_72 (by decide) ?_
  refine gj_icmp_ne (tgt := 80) d_Mo_book_73 (by decide) (fun h73 => absurd (h2) h73) (fun h73 => ?_)
  refine gj_kc (v := 3) d_Mo_book_76 (by decide) ?_
  refine gj_goto (tgt := 81) d_Mo_book_77 (by decide) ?_
  refine gj_put d_Mo_book_81 gp_Mo_7 f2 (Nat.le_of_ble_eq_true rfl) (fun _ => rfl) (fun _ => rfl) ?_
  obtain ⟨C6, eC6⟩ : ∃ Z0, Z0 = va_up C1 (70) (.inr (5, [.int (3), .ref (71), .int (nI sg), .int (nI li), .ref (72), .int (nI nl), .ref (73), .int (nI ap), .int (nI ns), .ref (74), .ref (75), .ref (76), .ref (77), .ref (78), .ref (79), .ref (80), .ref (81), .ref (82), .ref (83), .ref (84), .int (nI dy), .ref (85), .ref (86), .ref (87), .ref (88), .ref (89), .ref (90)])) := ⟨_, rfl⟩
  refine gj_mem eC6 ?_
  have f7 : C6 (70) = .inr (5, [.int (3), .ref (71), .int (nI sg), .int (nI li), .ref (72), .int (nI nl), .ref (73), .int (nI ap), .int (nI ns), .ref (74), .ref (75), .ref (76), .ref (77), .ref (78), .ref (79), .ref (80), .ref (81), .ref (82), .ref (83), .ref (84), .int (nI dy), .ref (85), .ref (86), .ref (87), .ref (88), .ref (89), .ref (90)]) := by rw [eC6]; exact va_up_self _ _ _
  have f8 : C6 (74) = .inl (2, 20, .inl go) := by rw [eC6, va_up_ne _ _ (by omega)]; exact f3
  have f9 : C6 (78) = .inl (0, 20, .inl se) := by rw [eC6, va_up_ne _ _ (by omega)]; exact f4
  have f10 : C6 (79) = .inl (0, 20, .inl pr) := by rw [eC6, va_up_ne _ _ (by omega)]; exact f5
  refine gj_aload_n d_Mo_book_84 rfl ?_
  refine gj_get d_Mo_book_85 gf_Mo_7 f7 rfl ?_
  refine gj_if_eq (tgt := 93) d_Mo_book_88 (by decide) (fun h88 => absurd h88 (by decide)) (fun h88 => ?_)
  refine gj_kc (v := 0) d_Mo_book_91 (by decide) ?_
  refine gj_iret rfl (Nat.zero_le _) (Nat.zero_le _) d_Mo_book_92 ?_
  exact ⟨rfl, rfl, f7, fun y c0 => by show C6 y = C y; rw [eC6, va_up_ne _ _ (by assumption), eC1, va_up_ne _ _ (by assumption)]⟩
set_option maxHeartbeats 2000000 in
theorem c_Mo_book {d K N n sg li nl ap ns dy : Nat} {tc : Int32} {C : Nat → va_E} {go se pr : Nat → Int32} (m70 : C (70) = .inr (5, [.int (tc), .ref (71), .int (nI sg), .int (nI li), .ref (72), .int (nI nl), .ref (73), .int (nI ap), .int (nI ns), .ref (74), .ref (75), .ref (76), .ref (77), .ref (78), .ref (79), .ref (80), .ref (81), .ref (82), .ref (83), .ref (84), .int (nI dy), .ref (85), .ref (86), .ref (87), .ref (88), .ref (89), .ref (90)])) (m74 : C (74) = .inl (2, 20, .inl go)) (m78 : C (78) = .inl (0, 20, .inl se)) (m79 : C (79) = .inl (0, 20, .inl pr)) (hns : ns ≤ 20) {j a : Nat} (hj : j < ns) (hg : go j = 0) (ha : a < 10) {P : Int32} (hP : ∀ (C2 : Nat → va_E) (tc : Int32), C2 70 = .inr (5, [.int (tc), .ref (71), .int (nI sg), .int (nI li), .ref (72), .int (nI nl), .ref (73), .int (nI ap), .int (nI ns), .ref (74), .ref (75), .ref (76), .ref (77), .ref (78), .ref (79), .ref (80), .ref (81), .ref (82), .ref (83), .ref (84), .int (nI dy), .ref (85), .ref (86), .ref (87), .ref (88), .ref (89), .ref (90)]) → (∀ y, y ≠ 70 → C2 y = C y) → gj_G md_Mo_priceOf d 0 0 0 0 0 [(0, .ref 70), (1, .int (nI j)), (2, .int (nI a))] [] n C2 (fun r => r = (gj_iv P, n, C2))) (h : se j < 0) (h2 : ¬ P = -2) (h1 : ¬ P = -1) : gj_G md_Mo_book (d + 1) K N 0 0 0 [(0, .ref (70)), (1, .int (nI j)), (2, .int (nI a))] [] (n) C (fun r => r.1 = gj_iv P ∧ r.2.1 = n ∧ r.2.2 70 = .inr (5, [.int (0), .ref (71), .int (nI sg), .int (nI li), .ref (72), .int (nI nl), .ref (73), .int (nI ap), .int (nI ns), .ref (74), .ref (75), .ref (76), .ref (77), .ref (78), .ref (79), .ref (80), .ref (81), .ref (82), .ref (83), .ref (84), .int (nI dy), .ref (85), .ref (86), .ref (87), .ref (88), .ref (89), .ref (90)]) ∧ r.2.2 78 = .inl (0, 20, .inl (upd se j (nI a))) ∧ r.2.2 79 = .inl (0, 20, .inl (upd pr j P)) ∧ ∀ y, y ≠ 70 → y ≠ 78 → y ≠ 79 → r.2.2 y = C y) := by
  refine gj_aload_n d_Mo_book_0 rfl ?_
  refine gj_aload_n d_Mo_book_1 rfl ?_
  refine gj_iload_n d_Mo_book_2 rfl ?_
  refine gj_callV (as := [.int (nI j)]) (rest := [.ref (70)]) (K1 := 0) (N1 := 0) d_Mo_book_3 mo_Mo_noShipment gw_725 gw_727 gw_14 m70 rfl pl_Mo_noShipment (Nat.le_of_ble_eq_true rfl) (Nat.le_of_ble_eq_true rfl) (Nat.zero_le _) (Nat.zero_le _) (c_Mo_noShipment m70 m74 hns hj hg) (fun E n' C' _ h => by cases h) (fun v n' C' _ h => ?_)
  cases h
  refine gj_if_eq (tgt := 13) d_Mo_book_6 (by decide) (fun h6 => ?_) (fun h6 => absurd (by decide) h6)
  refine gj_iload_n d_Mo_book_13 rfl ?_
  refine gj_kc (v := 0) d_Mo_book_14 (by decide) ?_
  refine gj_kb (v := 9) d_Mo_book_15 (by decide) ?_
  refine gj_callS (as := [.int (nI a), .int (0), .int (9)]) (rest := [.ref (70)]) (K1 := 0) (N1 := 0) d_Mo_book_17 mo_Mo_not gw_687 gw_688 gw_25 pl_Mo_not (Nat.le_of_ble_eq_true rfl) (Nat.le_of_ble_eq_true rfl) (Nat.zero_le _) (Nat.zero_le _) (c_Mo_not (nI a) (0) (9)) (fun E n' C' _ h => by cases h) (fun v n' C' _ h => ?_)
  cases h
  refine gj_top (y := 0) (pm_nt0 (pm_of ha)) ?_
  refine gj_if_eq (tgt := 27) d_Mo_book_20 (by decide) (fun h20 => ?_) (fun h20 => absurd (by decide) h20)
  refine gj_aload_n d_Mo_book_27 rfl ?_
  refine gj_get d_Mo_book_28 gf_Mo_51 m70 rfl ?_
  refine gj_iload_n d_Mo_book_31 rfl ?_
  refine gj_iald d_Mo_book_32 m78 rfl (vp_in_nI (by omega) (by decide)) ?_
  refine gj_top (y := se (j)) (congrArg se (nI_clamp (by omega))) ?_
  refine gj_if_lt (tgt := 40) d_Mo_book_33 (by decide) (fun h33 => ?_) (fun h33 => absurd (h) h33)
  refine gj_kc (v := 0) d_Mo_book_40 (by decide) ?_
  refine gj_put d_Mo_book_41 gp_Mo_7 m70 (Nat.le_of_ble_eq_true rfl) (fun _ => rfl) (fun _ => rfl) ?_
  obtain ⟨C1, eC1⟩ : ∃ Z0, Z0 = va_up C (70) (.inr (5, [.int (0), .ref (71), .int (nI sg), .int (nI li), .ref (72), .int (nI nl), .ref (73), .int (nI ap), .int (nI ns), .ref (74), .ref (75), .ref (76), .ref (77), .ref (78), .ref (79), .ref (80), .ref (81), .ref (82), .ref (83), .ref (84), .int (nI dy), .ref (85), .ref (86), .ref (87), .ref (88), .ref (89), .ref (90)])) := ⟨_, rfl⟩
  refine gj_mem eC1 ?_
  have f2 : C1 (70) = .inr (5, [.int (0), .ref (71), .int (nI sg), .int (nI li), .ref (72), .int (nI nl), .ref (73), .int (nI ap), .int (nI ns), .ref (74), .ref (75), .ref (76), .ref (77), .ref (78), .ref (79), .ref (80), .ref (81), .ref (82), .ref (83), .ref (84), .int (nI dy), .ref (85), .ref (86), .ref (87), .ref (88), .ref (89), .ref (90)]) := by rw [eC1]; exact va_up_self _ _ _
  have f3 : C1 (74) = .inl (2, 20, .inl go) := by rw [eC1, va_up_ne _ _ (by omega)]; exact m74
  have f4 : C1 (78) = .inl (0, 20, .inl se) := by rw [eC1, va_up_ne _ _ (by omega)]; exact m78
  have f5 : C1 (79) = .inl (0, 20, .inl pr) := by rw [eC1, va_up_ne _ _ (by omega)]; exact m79
  refine gj_aload_n d_Mo_book_44 rfl ?_
  refine gj_get d_Mo_book_45 gf_Mo_7 f2 rfl ?_
  refine gj_if_eq (tgt := 53) d_Mo_book_48 (by decide) (fun h48 => ?_) (fun h48 => absurd (by decide) h48)
  refine gj_aload_n d_Mo_book_53 rfl ?_
  refine gj_iload_n d_Mo_book_54 rfl ?_
  refine gj_iload_n d_Mo_book_55 rfl ?_
  refine gj_callV (as := [.int (nI j), .int (nI a)]) (rest := []) (K1 := 0) (N1 := 0) d_Mo_book_56 mo_Mo_priceOf gw_741 gw_743 gw_17 f2 rfl pl_Mo_priceOf (Nat.le_of_ble_eq_true rfl) (Nat.le_of_ble_eq_true rfl) (Nat.zero_le _) (Nat.zero_le _) (hP C1 _ f2 (fun y c0 => by show C1 y = C y; rw [eC1, va_up_ne _ _ (by assumption)])) (fun E n' C' _ h => by cases h) (fun v n' C' _ h => ?_)
  cases h
  refine gj_istore_n d_Mo_book_59 (by decide) ?_
  refine gj_aload_n d_Mo_book_60 rfl ?_
  refine gj_iload_n d_Mo_book_61 rfl ?_
  refine gj_kb (v := (-2)) d_Mo_book_62 (by decide) ?_
  refine gj_icmp_ne (tgt := 71) d_Mo_book_64 (by decide) (fun h64 => ?_) (fun h64 => absurd h64 (h2))
  refine gj_iload_n d_Mo_book_71 rfl ?_
  refine gj_kc (v := (-1)) d_Mo_book_72 (by decide) ?_
  refine gj_icmp_ne (tgt := 80) d_Mo_book_73 (by decide) (fun h73 => ?_) (fun h73 => absurd h73 (h1))
  refine gj_kc (v := 0) d_Mo_book_80 (by decide) ?_
  refine gj_put d_Mo_book_81 gp_Mo_7 f2 (Nat.le_of_ble_eq_true rfl) (fun _ => rfl) (fun _ => rfl) ?_
  obtain ⟨C6, eC6⟩ : ∃ Z0, Z0 = va_up C1 (70) (.inr (5, [.int (0), .ref (71), .int (nI sg), .int (nI li), .ref (72), .int (nI nl), .ref (73), .int (nI ap), .int (nI ns), .ref (74), .ref (75), .ref (76), .ref (77), .ref (78), .ref (79), .ref (80), .ref (81), .ref (82), .ref (83), .ref (84), .int (nI dy), .ref (85), .ref (86), .ref (87), .ref (88), .ref (89), .ref (90)])) := ⟨_, rfl⟩
  refine gj_mem eC6 ?_
  have f7 : C6 (70) = .inr (5, [.int (0), .ref (71), .int (nI sg), .int (nI li), .ref (72), .int (nI nl), .ref (73), .int (nI ap), .int (nI ns), .ref (74), .ref (75), .ref (76), .ref (77), .ref (78), .ref (79), .ref (80), .ref (81), .ref (82), .ref (83), .ref (84), .int (nI dy), .ref (85), .ref (86), .ref (87), .ref (88), .ref (89), .ref (90)]) := by rw [eC6]; exact va_up_self _ _ _
  have f8 : C6 (74) = .inl (2, 20, .inl go) := by rw [eC6, va_up_ne _ _ (by omega)]; exact f3
  have f9 : C6 (78) = .inl (0, 20, .inl se) := by rw [eC6, va_up_ne _ _ (by omega)]; exact f4
  have f10 : C6 (79) = .inl (0, 20, .inl pr) := by rw [eC6, va_up_ne _ _ (by omega)]; exact f5
  refine gj_aload_n d_Mo_book_84 rfl ?_
  refine gj_get d_Mo_book_85 gf_Mo_7 f7 rfl ?_
  refine gj_if_eq (tgt := 93) d_Mo_book_88 (by decide) (fun h88 => ?_) (fun h88 => absurd (by decide) h88)
  refine gj_aload_n d_Mo_book_93 rfl ?_
  refine gj_get d_Mo_book_94 gf_Mo_51 f7 rfl ?_
  refine gj_iload_n d_Mo_book_97 rfl ?_
  refine gj_iload_n d_Mo_book_98 rfl ?_
  refine gj_iast d_Mo_book_99 f9 rfl (vp_in_nI (by omega) (by decide)) ?_
  obtain ⟨C11, eC11⟩ : ∃ Z0, Z0 = va_up C6 (78) (.inl (0, 20, .inl (upd se (j) (nI a)))) := ⟨_, rfl⟩
  refine gj_mem (eC11.trans (by rw [nI_clamp (by omega)])) ?_
  have f12 : C11 (70) = .inr (5, [.int (0), .ref (71), .int (nI sg), .int (nI li), .ref (72), .int (nI nl), .ref (73), .int (nI ap), .int (nI ns), .ref (74), .ref (75), .ref (76), .ref (77), .ref (78), .ref (79), .ref (80), .ref (81), .ref (82), .ref (83), .ref (84), .int (nI dy), .ref (85), .ref (86), .ref (87), .ref (88), .ref (89), .ref (90)]) := by rw [eC11, va_up_ne _ _ (by omega)]; exact f7
  have f13 : C11 (74) = .inl (2, 20, .inl go) := by rw [eC11, va_up_ne _ _ (by omega)]; exact f8
  have f14 : C11 (78) = .inl (0, 20, .inl (upd se (j) (nI a))) := by rw [eC11]; exact va_up_self _ _ _
  have f15 : C11 (79) = .inl (0, 20, .inl pr) := by rw [eC11, va_up_ne _ _ (by omega)]; exact f10
  refine gj_aload_n d_Mo_book_100 rfl ?_
  refine gj_get d_Mo_book_101 gf_Mo_54 f12 rfl ?_
  refine gj_iload_n d_Mo_book_104 rfl ?_
  refine gj_iload_n d_Mo_book_105 rfl ?_
  refine gj_iast d_Mo_book_106 f15 rfl (vp_in_nI (by omega) (by decide)) ?_
  obtain ⟨C16, eC16⟩ : ∃ Z0, Z0 = va_up C11 (79) (.inl (0, 20, .inl (upd pr (j) (P)))) := ⟨_, rfl⟩
  refine gj_mem (eC16.trans (by rw [nI_clamp (by omega)])) ?_
  have f17 : C16 (70) = .inr (5, [.int (0), .ref (71), .int (nI sg), .int (nI li), .ref (72), .int (nI nl), .ref (73), .int (nI ap), .int (nI ns), .ref (74), .ref (75), .ref (76), .ref (77), .ref (78), .ref (79), .ref (80), .ref (81), .ref (82), .ref (83), .ref (84), .int (nI dy), .ref (85), .ref (86), .ref (87), .ref (88), .ref (89), .ref (90)]) := by rw [eC16, va_up_ne _ _ (by omega)]; exact f12
  have f18 : C16 (74) = .inl (2, 20, .inl go) := by rw [eC16, va_up_ne _ _ (by omega)]; exact f13
  have f19 : C16 (78) = .inl (0, 20, .inl (upd se (j) (nI a))) := by rw [eC16, va_up_ne _ _ (by omega)]; exact f14
  have f20 : C16 (79) = .inl (0, 20, .inl (upd pr (j) (P))) := by rw [eC16]; exact va_up_self _ _ _
  refine gj_iload_n d_Mo_book_107 rfl ?_
  refine gj_iret rfl (Nat.zero_le _) (Nat.zero_le _) d_Mo_book_108 ?_
  exact ⟨rfl, rfl, f17, f19, f20, fun y c0 c1 c2 => by show C16 y = C y; rw [eC16, va_up_ne _ _ (by assumption), eC11, va_up_ne _ _ (by assumption), eC6, va_up_ne _ _ (by assumption), eC1, va_up_ne _ _ (by assumption)]⟩
set_option maxHeartbeats 2000000 in
theorem c_Mo_invoice_x3 {d K N n sg li nl ap ns dy : Nat} {tc : Int32} {C : Nat → va_E} {go se pr le : Nat → Int32} (m70 : C (70) = .inr (5, [.int (tc), .ref (71), .int (nI sg), .int (nI li), .ref (72), .int (nI nl), .ref (73), .int (nI ap), .int (nI ns), .ref (74), .ref (75), .ref (76), .ref (77), .ref (78), .ref (79), .ref (80), .ref (81), .ref (82), .ref (83), .ref (84), .int (nI dy), .ref (85), .ref (86), .ref (87), .ref (88), .ref (89), .ref (90)])) (m74 : C (74) = .inl (2, 20, .inl go)) (m78 : C (78) = .inl (0, 20, .inl se)) (m79 : C (79) = .inl (0, 20, .inl pr)) (m80 : C (80) = .inl (0, 20, .inl le)) (hns : ns ≤ 20) {j : Nat} {a : Int32} (hj : j < ns) (hg : go j = 0) (hc : 0 ≤ a ∧ a ≤ 10000000) (h : ¬ (0 ≤ se j ∧ le j < 0)) : gj_G md_Mo_invoice (d + 1) K N 0 0 0 [(0, .ref (70)), (1, .int (nI j)), (2, .int (a))] [] (n) C (fun r => r.1 = gj_iv 0 ∧ r.2.1 = n ∧ r.2.2 70 = .inr (5, [.int (3), .ref (71), .int (nI sg), .int (nI li), .ref (72), .int (nI nl), .ref (73), .int (nI ap), .int (nI ns), .ref (74), .ref (75), .ref (76), .ref (77), .ref (78), .ref (79), .ref (80), .ref (81), .ref (82), .ref (83), .ref (84), .int (nI dy), .ref (85), .ref (86), .ref (87), .ref (88), .ref (89), .ref (90)]) ∧ ∀ y, y ≠ 70 → r.2.2 y = C y) := by
  refine gj_aload_n d_Mo_invoice_0 rfl ?_
  refine gj_aload_n d_Mo_invoice_1 rfl ?_
  refine gj_iload_n d_Mo_invoice_2 rfl ?_
  refine gj_callV (as := [.int (nI j)]) (rest := [.ref (70)]) (K1 := 0) (N1 := 0) d_Mo_invoice_3 mo_Mo_noShipment gw_725 gw_727 gw_14 m70 rfl pl_Mo_noShipment (Nat.le_of_ble_eq_true rfl) (Nat.le_of_ble_eq_true rfl) (Nat.zero_le _) (Nat.zero_le _) (c_Mo_noShipment m70 m74 hns hj hg) (fun E n' C' _ h => by cases h) (fun v n' C' _ h => ?_)
  cases h
  refine gj_if_eq (tgt := 13) d_Mo_invoice_6 (by decide) (fun h6 => ?_) (fun h6 => absurd (by decide) h6)
  refine gj_iload_n d_Mo_invoice_13 rfl ?_
  refine gj_kc (v := 0) d_Mo_invoice_14 (by decide) ?_
  refine gj_ldc d_Mo_invoice_15 gw_776 ?_
  refine gj_callS (as := [.int (a), .int (0), .int (10000000)]) (rest := [.ref (70)]) (K1 := 0) (N1 := 0) d_Mo_invoice_17 mo_Mo_not gw_687 gw_688 gw_25 pl_Mo_not (Nat.le_of_ble_eq_true rfl) (Nat.le_of_ble_eq_true rfl) (Nat.zero_le _) (Nat.zero_le _) (c_Mo_not (a) (0) (10000000)) (fun E n' C' _ h => by cases h) (fun v n' C' _ h => ?_)
  cases h
  refine gj_top (y := 0) (pm_nt0 hc) ?_
  refine gj_if_eq (tgt := 27) d_Mo_invoice_20 (by decide) (fun h20 => ?_) (fun h20 => absurd (by decide) h20)
  refine gj_aload_n d_Mo_invoice_27 rfl ?_
  refine gj_get d_Mo_invoice_28 gf_Mo_51 m70 rfl ?_
  refine gj_iload_n d_Mo_invoice_31 rfl ?_
  refine gj_iald d_Mo_invoice_32 m78 rfl (vp_in_nI (by omega) (by decide)) ?_
  refine gj_top (y := se (j)) (congrArg se (nI_clamp (by omega))) ?_
  refine gj_if_lt (tgt := 45) d_Mo_invoice_33 (by decide) (fun h33 => ?_) (fun h33 => ?_)
  · refine gj_kc (v := 3) d_Mo_invoice_45 (by decide) ?_
    refine gj_goto (tgt := 50) d_Mo_invoice_46 (by decide) ?_
    refine gj_put d_Mo_invoice_50 gp_Mo_7 m70 (Nat.le_of_ble_eq_true rfl) (fun _ => rfl) (fun _ => rfl) ?_
    obtain ⟨C1, eC1⟩ : ∃ Z0, Z0 = va_up C (70) (.inr (5, [.int (3), .ref (71), .int (nI sg), .int (nI li), .ref (72), .int (nI nl), .ref (73), .int (nI ap), .int (nI ns), .ref (74), .ref (75), .ref (76), .ref (77), .ref (78), .ref (79), .ref (80), .ref (81), .ref (82), .ref (83), .ref (84), .int (nI dy), .ref (85), .ref (86), .ref (87), .ref (88), .ref (89), .ref (90)])) := ⟨_, rfl⟩
    refine gj_mem eC1 ?_
    have f2 : C1 (70) = .inr (5, [.int (3), .ref (71), .int (nI sg), .int (nI li), .ref (72), .int (nI nl), .ref (73), .int (nI ap), .int (nI ns), .ref (74), .ref (75), .ref (76), .ref (77), .ref (78), .ref (79), .ref (80), .ref (81), .ref (82), .ref (83), .ref (84), .int (nI dy), .ref (85), .ref (86), .ref (87), .ref (88), .ref (89), .ref (90)]) := by rw [eC1]; exact va_up_self _ _ _
    have f3 : C1 (74) = .inl (2, 20, .inl go) := by rw [eC1, va_up_ne _ _ (by omega)]; exact m74
    have f4 : C1 (78) = .inl (0, 20, .inl se) := by rw [eC1, va_up_ne _ _ (by omega)]; exact m78
    have f5 : C1 (79) = .inl (0, 20, .inl pr) := by rw [eC1, va_up_ne _ _ (by omega)]; exact m79
    have f6 : C1 (80) = .inl (0, 20, .inl le) := by rw [eC1, va_up_ne _ _ (by omega)]; exact m80
    refine gj_aload_n d_Mo_invoice_53 rfl ?_
    refine gj_get d_Mo_invoice_54 gf_Mo_7 f2 rfl ?_
    refine gj_if_eq (tgt := 62) d_Mo_invoice_57 (by decide) (fun h57 => absurd h57 (by decide)) (fun h57 => ?_)
    refine gj_kc (v := 0) d_Mo_invoice_60 (by decide) ?_
    refine gj_iret rfl (Nat.zero_le _) (Nat.zero_le _) d_Mo_invoice_61 ?_
    exact ⟨rfl, rfl, f2, fun y c0 => by show C1 y = C y; rw [eC1, va_up_ne _ _ (by assumption)]⟩
  · refine gj_aload_n d_Mo_invoice_36 rfl ?_
    refine gj_get d_Mo_invoice_37 gf_Mo_57 m70 rfl ?_
    refine gj_iload_n d_Mo_invoice_40 rfl ?_
    refine gj_iald d_Mo_invoice_41 m80 rfl (vp_in_nI (by omega) (by decide)) ?_
    refine gj_top (y := le (j)) (congrArg le (nI_clamp (by omega))) ?_
    refine gj_if_lt (tgt := 49) d_Mo_invoice_42 (by decide) (fun h42 => ?_) (fun h42 => ?_)
    · exact absurd ⟨Int32.not_lt.mp h33, h42⟩ h
    · refine gj_kc (v := 3) d_Mo_invoice_45 (by decide) ?_
      refine gj_goto (tgt := 50) d_Mo_invoice_46 (by decide) ?_
      refine gj_put d_Mo_invoice_50 gp_Mo_7 m70 (Nat.le_of_ble_eq_true rfl) (fun _ => rfl) (fun _ => rfl) ?_
      obtain ⟨C7, eC7⟩ : ∃ Z0, Z0 = va_up C (70) (.inr (5, [.int (3), .ref (71), .int (nI sg), .int (nI li), .ref (72), .int (nI nl), .ref (73), .int (nI ap), .int (nI ns), .ref (74), .ref (75), .ref (76), .ref (77), .ref (78), .ref (79), .ref (80), .ref (81), .ref (82), .ref (83), .ref (84), .int (nI dy), .ref (85), .ref (86), .ref (87), .ref (88), .ref (89), .ref (90)])) := ⟨_, rfl⟩
      refine gj_mem eC7 ?_
      have f8 : C7 (70) = .inr (5, [.int (3), .ref (71), .int (nI sg), .int (nI li), .ref (72), .int (nI nl), .ref (73), .int (nI ap), .int (nI ns), .ref (74), .ref (75), .ref (76), .ref (77), .ref (78), .ref (79), .ref (80), .ref (81), .ref (82), .ref (83), .ref (84), .int (nI dy), .ref (85), .ref (86), .ref (87), .ref (88), .ref (89), .ref (90)]) := by rw [eC7]; exact va_up_self _ _ _
      have f9 : C7 (74) = .inl (2, 20, .inl go) := by rw [eC7, va_up_ne _ _ (by omega)]; exact m74
      have f10 : C7 (78) = .inl (0, 20, .inl se) := by rw [eC7, va_up_ne _ _ (by omega)]; exact m78
      have f11 : C7 (79) = .inl (0, 20, .inl pr) := by rw [eC7, va_up_ne _ _ (by omega)]; exact m79
      have f12 : C7 (80) = .inl (0, 20, .inl le) := by rw [eC7, va_up_ne _ _ (by omega)]; exact m80
      refine gj_aload_n d_Mo_invoice_53 rfl ?_
      refine gj_get d_Mo_invoice_54 gf_Mo_7 f8 rfl ?_
      refine gj_if_eq (tgt := 62) d_Mo_invoice_57 (by decide) (fun h57 => absurd h57 (by decide)) (fun h57 => ?_)
      refine gj_kc (v := 0) d_Mo_invoice_60 (by decide) ?_
      refine gj_iret rfl (Nat.zero_le _) (Nat.zero_le _) d_Mo_invoice_61 ?_
      exact ⟨rfl, rfl, f8, fun y c0 => by show C7 y = C y; rw [eC7, va_up_ne _ _ (by assumption)]⟩
set_option maxHeartbeats 2000000 in
theorem c_Mo_invoice {d K N n sg li nl ap ns dy : Nat} {tc : Int32} {C : Nat → va_E} {go se pr le : Nat → Int32} (m70 : C (70) = .inr (5, [.int (tc), .ref (71), .int (nI sg), .int (nI li), .ref (72), .int (nI nl), .ref (73), .int (nI ap), .int (nI ns), .ref (74), .ref (75), .ref (76), .ref (77), .ref (78), .ref (79), .ref (80), .ref (81), .ref (82), .ref (83), .ref (84), .int (nI dy), .ref (85), .ref (86), .ref (87), .ref (88), .ref (89), .ref (90)])) (m74 : C (74) = .inl (2, 20, .inl go)) (m78 : C (78) = .inl (0, 20, .inl se)) (m79 : C (79) = .inl (0, 20, .inl pr)) (m80 : C (80) = .inl (0, 20, .inl le)) (hns : ns ≤ 20) {j : Nat} {a : Int32} (hj : j < ns) (hg : go j = 0) (hc : 0 ≤ a ∧ a ≤ 10000000) (h : 0 ≤ se j) (h2 : le j < 0) : gj_G md_Mo_invoice (d + 1) K N 0 0 0 [(0, .ref (70)), (1, .int (nI j)), (2, .int (a))] [] (n) C (fun r => r.1 = gj_iv (a - pr j) ∧ r.2.1 = n ∧ r.2.2 70 = .inr (5, [.int (0), .ref (71), .int (nI sg), .int (nI li), .ref (72), .int (nI nl), .ref (73), .int (nI ap), .int (nI ns), .ref (74), .ref (75), .ref (76), .ref (77), .ref (78), .ref (79), .ref (80), .ref (81), .ref (82), .ref (83), .ref (84), .int (nI dy), .ref (85), .ref (86), .ref (87), .ref (88), .ref (89), .ref (90)]) ∧ r.2.2 80 = .inl (0, 20, .inl (upd le j a)) ∧ ∀ y, y ≠ 70 → y ≠ 80 → r.2.2 y = C y) := by
  refine gj_aload_n d_Mo_invoice_0 rfl ?_
  refine gj_aload_n d_Mo_invoice_1 rfl ?_
  refine gj_iload_n d_Mo_invoice_2 rfl ?_
  refine gj_callV (as := [.int (nI j)]) (rest := [.ref (70)]) (K1 := 0) (N1 := 0) d_Mo_invoice_3 mo_Mo_noShipment gw_725 gw_727 gw_14 m70 rfl pl_Mo_noShipment (Nat.le_of_ble_eq_true rfl) (Nat.le_of_ble_eq_true rfl) (Nat.zero_le _) (Nat.zero_le _) (c_Mo_noShipment m70 m74 hns hj hg) (fun E n' C' _ h => by cases h) (fun v n' C' _ h => ?_)
  cases h
  refine gj_if_eq (tgt := 13) d_Mo_invoice_6 (by decide) (fun h6 => ?_) (fun h6 => absurd (by decide) h6)
  refine gj_iload_n d_Mo_invoice_13 rfl ?_
  refine gj_kc (v := 0) d_Mo_invoice_14 (by decide) ?_
  refine gj_ldc d_Mo_invoice_15 gw_776 ?_
  refine gj_callS (as := [.int (a), .int (0), .int (10000000)]) (rest := [.ref (70)]) (K1 := 0) (N1 := 0) d_Mo_invoice_17 mo_Mo_not gw_687 gw_688 gw_25 pl_Mo_not (Nat.le_of_ble_eq_true rfl) (Nat.le_of_ble_eq_true rfl) (Nat.zero_le _) (Nat.zero_le _) (c_Mo_not (a) (0) (10000000)) (fun E n' C' _ h => by cases h) (fun v n' C' _ h => ?_)
  cases h
  refine gj_top (y := 0) (pm_nt0 hc) ?_
  refine gj_if_eq (tgt := 27) d_Mo_invoice_20 (by decide) (fun h20 => ?_) (fun h20 => absurd (by decide) h20)
  refine gj_aload_n d_Mo_invoice_27 rfl ?_
  refine gj_get d_Mo_invoice_28 gf_Mo_51 m70 rfl ?_
  refine gj_iload_n d_Mo_invoice_31 rfl ?_
  refine gj_iald d_Mo_invoice_32 m78 rfl (vp_in_nI (by omega) (by decide)) ?_
  refine gj_top (y := se (j)) (congrArg se (nI_clamp (by omega))) ?_
  refine gj_if_lt (tgt := 45) d_Mo_invoice_33 (by decide) (fun h33 => absurd h33 (Int32.not_lt.mpr h)) (fun h33 => ?_)
  refine gj_aload_n d_Mo_invoice_36 rfl ?_
  refine gj_get d_Mo_invoice_37 gf_Mo_57 m70 rfl ?_
  refine gj_iload_n d_Mo_invoice_40 rfl ?_
  refine gj_iald d_Mo_invoice_41 m80 rfl (vp_in_nI (by omega) (by decide)) ?_
  refine gj_top (y := le (j)) (congrArg le (nI_clamp (by omega))) ?_
  refine gj_if_lt (tgt := 49) d_Mo_invoice_42 (by decide) (fun h42 => ?_) (fun h42 => absurd (h2) h42)
  refine gj_kc (v := 0) d_Mo_invoice_49 (by decide) ?_
  refine gj_put d_Mo_invoice_50 gp_Mo_7 m70 (Nat.le_of_ble_eq_true rfl) (fun _ => rfl) (fun _ => rfl) ?_
  obtain ⟨C1, eC1⟩ : ∃ Z0, Z0 = va_up C (70) (.inr (5, [.int (0), .ref (71), .int (nI sg), .int (nI li), .ref (72), .int (nI nl), .ref (73), .int (nI ap), .int (nI ns), .ref (74), .ref (75), .ref (76), .ref (77), .ref (78), .ref (79), .ref (80), .ref (81), .ref (82), .ref (83), .ref (84), .int (nI dy), .ref (85), .ref (86), .ref (87), .ref (88), .ref (89), .ref (90)])) := ⟨_, rfl⟩
  refine gj_mem eC1 ?_
  have f2 : C1 (70) = .inr (5, [.int (0), .ref (71), .int (nI sg), .int (nI li), .ref (72), .int (nI nl), .ref (73), .int (nI ap), .int (nI ns), .ref (74), .ref (75), .ref (76), .ref (77), .ref (78), .ref (79), .ref (80), .ref (81), .ref (82), .ref (83), .ref (84), .int (nI dy), .ref (85), .ref (86), .ref (87), .ref (88), .ref (89), .ref (90)]) := by rw [eC1]; exact va_up_self _ _ _
  have f3 : C1 (74) = .inl (2, 20, .inl go) := by rw [eC1, va_up_ne _ _ (by omega)]; exact m74
  have f4 : C1 (78) = .inl (0, 20, .inl se) := by rw [eC1, va_up_ne _ _ (by omega)]; exact m78
  have f5 : C1 (79) = .inl (0, 20, .inl pr) := by rw [eC1, va_up_ne _ _ (by omega)]; exact m79
  have f6 : C1 (80) = .inl (0, 20, .inl le) := by rw [eC1, va_up_ne _ _ (by omega)]; exact m80
  refine gj_aload_n d_Mo_invoice_53 rfl ?_
  refine gj_get d_Mo_invoice_54 gf_Mo_7 f2 rfl ?_
  refine gj_if_eq (tgt := 62) d_Mo_invoice_57 (by decide) (fun h57 => ?_) (fun h57 => absurd (by decide) h57)
  refine gj_aload_n d_Mo_invoice_62 rfl ?_
  refine gj_get d_Mo_invoice_63 gf_Mo_57 f2 rfl ?_
  refine gj_iload_n d_Mo_invoice_66 rfl ?_
  refine gj_iload_n d_Mo_invoice_67 rfl ?_
  refine gj_iast d_Mo_invoice_68 f6 rfl (vp_in_nI (by omega) (by decide)) ?_
  obtain ⟨C7, eC7⟩ : ∃ Z0, Z0 = va_up C1 (80) (.inl (0, 20, .inl (upd le (j) (a)))) := ⟨_, rfl⟩
  refine gj_mem (eC7.trans (by rw [nI_clamp (by omega)])) ?_
  have f8 : C7 (70) = .inr (5, [.int (0), .ref (71), .int (nI sg), .int (nI li), .ref (72), .int (nI nl), .ref (73), .int (nI ap), .int (nI ns), .ref (74), .ref (75), .ref (76), .ref (77), .ref (78), .ref (79), .ref (80), .ref (81), .ref (82), .ref (83), .ref (84), .int (nI dy), .ref (85), .ref (86), .ref (87), .ref (88), .ref (89), .ref (90)]) := by rw [eC7, va_up_ne _ _ (by omega)]; exact f2
  have f9 : C7 (74) = .inl (2, 20, .inl go) := by rw [eC7, va_up_ne _ _ (by omega)]; exact f3
  have f10 : C7 (78) = .inl (0, 20, .inl se) := by rw [eC7, va_up_ne _ _ (by omega)]; exact f4
  have f11 : C7 (79) = .inl (0, 20, .inl pr) := by rw [eC7, va_up_ne _ _ (by omega)]; exact f5
  have f12 : C7 (80) = .inl (0, 20, .inl (upd le (j) (a))) := by rw [eC7]; exact va_up_self _ _ _
  refine gj_iload_n d_Mo_invoice_69 rfl ?_
  refine gj_aload_n d_Mo_invoice_70 rfl ?_
  refine gj_get d_Mo_invoice_71 gf_Mo_54 f8 rfl ?_
  refine gj_iload_n d_Mo_invoice_74 rfl ?_
  refine gj_iald d_Mo_invoice_75 f11 rfl (vp_in_nI (by omega) (by decide)) ?_
  refine gj_top (y := pr (j)) (congrArg pr (nI_clamp (by omega))) ?_
  refine gj_isub d_Mo_invoice_76 ?_
  refine gj_iret rfl (Nat.zero_le _) (Nat.zero_le _) d_Mo_invoice_77 ?_
  exact ⟨rfl, rfl, f8, f12, fun y c0 c1 => by show C7 y = C y; rw [eC7, va_up_ne _ _ (by assumption), eC1, va_up_ne _ _ (by assumption)]⟩
set_option maxHeartbeats 2000000 in
theorem c_Mo_refund_x3 {d K N n sg li nl ap ns dy : Nat} {tc : Int32} {C : Nat → va_E} {go se pr le : Nat → Int32} (m70 : C (70) = .inr (5, [.int (tc), .ref (71), .int (nI sg), .int (nI li), .ref (72), .int (nI nl), .ref (73), .int (nI ap), .int (nI ns), .ref (74), .ref (75), .ref (76), .ref (77), .ref (78), .ref (79), .ref (80), .ref (81), .ref (82), .ref (83), .ref (84), .int (nI dy), .ref (85), .ref (86), .ref (87), .ref (88), .ref (89), .ref (90)])) (m74 : C (74) = .inl (2, 20, .inl go)) (m78 : C (78) = .inl (0, 20, .inl se)) (m79 : C (79) = .inl (0, 20, .inl pr)) (m80 : C (80) = .inl (0, 20, .inl le)) (hns : ns ≤ 20) {j : Nat} {a : Int32} (hj : j < ns) (hg : go j = 0) (hc : 1 ≤ a ∧ a ≤ 10000000) (h : le j < a) : gj_G md_Mo_refund (d + 1) K N 0 0 0 [(0, .ref (70)), (1, .int (nI j)), (2, .int (a))] [] (n) C (fun r => r.1 = gj_iv 0 ∧ r.2.1 = n ∧ r.2.2 70 = .inr (5, [.int (3), .ref (71), .int (nI sg), .int (nI li), .ref (72), .int (nI nl), .ref (73), .int (nI ap), .int (nI ns), .ref (74), .ref (75), .ref (76), .ref (77), .ref (78), .ref (79), .ref (80), .ref (81), .ref (82), .ref (83), .ref (84), .int (nI dy), .ref (85), .ref (86), .ref (87), .ref (88), .ref (89), .ref (90)]) ∧ ∀ y, y ≠ 70 → r.2.2 y = C y) := by
  refine gj_aload_n d_Mo_refund_0 rfl ?_
  refine gj_aload_n d_Mo_refund_1 rfl ?_
  refine gj_iload_n d_Mo_refund_2 rfl ?_
  refine gj_callV (as := [.int (nI j)]) (rest := [.ref (70)]) (K1 := 0) (N1 := 0) d_Mo_refund_3 mo_Mo_noShipment gw_725 gw_727 gw_14 m70 rfl pl_Mo_noShipment (Nat.le_of_ble_eq_true rfl) (Nat.le_of_ble_eq_true rfl) (Nat.zero_le _) (Nat.zero_le _) (c_Mo_noShipment m70 m74 hns hj hg) (fun E n' C' _ h => by cases h) (fun v n' C' _ h => ?_)
  cases h
  refine gj_if_eq (tgt := 13) d_Mo_refund_6 (by decide) (fun h6 => ?_) (fun h6 => absurd (by decide) h6)
  refine gj_iload_n d_Mo_refund_13 rfl ?_
  refine gj_kc (v := 1) d_Mo_refund_14 (by decide) ?_
  refine gj_ldc d_Mo_refund_15 gw_776 ?_
  refine gj_callS (as := [.int (a), .int (1), .int (10000000)]) (rest := [.ref (70)]) (K1 := 0) (N1 := 0) d_Mo_refund_17 mo_Mo_not gw_687 gw_688 gw_25 pl_Mo_not (Nat.le_of_ble_eq_true rfl) (Nat.le_of_ble_eq_true rfl) (Nat.zero_le _) (Nat.zero_le _) (c_Mo_not (a) (1) (10000000)) (fun E n' C' _ h => by cases h) (fun v n' C' _ h => ?_)
  cases h
  refine gj_top (y := 0) (pm_nt0 hc) ?_
  refine gj_if_eq (tgt := 27) d_Mo_refund_20 (by decide) (fun h20 => ?_) (fun h20 => absurd (by decide) h20)
  refine gj_aload_n d_Mo_refund_27 rfl ?_
  refine gj_get d_Mo_refund_28 gf_Mo_57 m70 rfl ?_
  refine gj_iload_n d_Mo_refund_31 rfl ?_
  refine gj_iald d_Mo_refund_32 m80 rfl (vp_in_nI (by omega) (by decide)) ?_
  refine gj_top (y := le (j)) (congrArg le (nI_clamp (by omega))) ?_
  refine gj_iload_n d_Mo_refund_33 rfl ?_
  refine gj_icmp_ge (tgt := 41) d_Mo_refund_34 (by decide) (fun h34 => absurd h34 (Int32.not_le.mpr h)) (fun h34 => ?_)
  refine gj_kc (v := 3) d_Mo_refund_37 (by decide) ?_
  refine gj_goto (tgt := 42) d_Mo_refund_38 (by decide) ?_
  refine gj_put d_Mo_refund_42 gp_Mo_7 m70 (Nat.le_of_ble_eq_true rfl) (fun _ => rfl) (fun _ => rfl) ?_
  obtain ⟨C1, eC1⟩ : ∃ Z0, Z0 = va_up C (70) (.inr (5, [.int (3), .ref (71), .int (nI sg), .int (nI li), .ref (72), .int (nI nl), .ref (73), .int (nI ap), .int (nI ns), .ref (74), .ref (75), .ref (76), .ref (77), .ref (78), .ref (79), .ref (80), .ref (81), .ref (82), .ref (83), .ref (84), .int (nI dy), .ref (85), .ref (86), .ref (87), .ref (88), .ref (89), .ref (90)])) := ⟨_, rfl⟩
  refine gj_mem eC1 ?_
  have f2 : C1 (70) = .inr (5, [.int (3), .ref (71), .int (nI sg), .int (nI li), .ref (72), .int (nI nl), .ref (73), .int (nI ap), .int (nI ns), .ref (74), .ref (75), .ref (76), .ref (77), .ref (78), .ref (79), .ref (80), .ref (81), .ref (82), .ref (83), .ref (84), .int (nI dy), .ref (85), .ref (86), .ref (87), .ref (88), .ref (89), .ref (90)]) := by rw [eC1]; exact va_up_self _ _ _
  have f3 : C1 (74) = .inl (2, 20, .inl go) := by rw [eC1, va_up_ne _ _ (by omega)]; exact m74
  have f4 : C1 (78) = .inl (0, 20, .inl se) := by rw [eC1, va_up_ne _ _ (by omega)]; exact m78
  have f5 : C1 (79) = .inl (0, 20, .inl pr) := by rw [eC1, va_up_ne _ _ (by omega)]; exact m79
  have f6 : C1 (80) = .inl (0, 20, .inl le) := by rw [eC1, va_up_ne _ _ (by omega)]; exact m80
  refine gj_aload_n d_Mo_refund_45 rfl ?_
  refine gj_get d_Mo_refund_46 gf_Mo_7 f2 rfl ?_
  refine gj_if_eq (tgt := 54) d_Mo_refund_49 (by decide) (fun h49 => absurd h49 (by decide)) (fun h49 => ?_)
  refine gj_kc (v := 0) d_Mo_refund_52 (by decide) ?_
  refine gj_iret rfl (Nat.zero_le _) (Nat.zero_le _) d_Mo_refund_53 ?_
  exact ⟨rfl, rfl, f2, fun y c0 => by show C1 y = C y; rw [eC1, va_up_ne _ _ (by assumption)]⟩
set_option maxHeartbeats 2000000 in
theorem c_Mo_refund {d K N n sg li nl ap ns dy : Nat} {tc : Int32} {C : Nat → va_E} {go se pr le : Nat → Int32} (m70 : C (70) = .inr (5, [.int (tc), .ref (71), .int (nI sg), .int (nI li), .ref (72), .int (nI nl), .ref (73), .int (nI ap), .int (nI ns), .ref (74), .ref (75), .ref (76), .ref (77), .ref (78), .ref (79), .ref (80), .ref (81), .ref (82), .ref (83), .ref (84), .int (nI dy), .ref (85), .ref (86), .ref (87), .ref (88), .ref (89), .ref (90)])) (m74 : C (74) = .inl (2, 20, .inl go)) (m78 : C (78) = .inl (0, 20, .inl se)) (m79 : C (79) = .inl (0, 20, .inl pr)) (m80 : C (80) = .inl (0, 20, .inl le)) (hns : ns ≤ 20) {j : Nat} {a : Int32} (hj : j < ns) (hg : go j = 0) (hc : 1 ≤ a ∧ a ≤ 10000000) (h : a ≤ le j) : gj_G md_Mo_refund (d + 1) K N 0 0 0 [(0, .ref (70)), (1, .int (nI j)), (2, .int (a))] [] (n) C (fun r => r.1 = gj_iv (le j - a) ∧ r.2.1 = n ∧ r.2.2 70 = .inr (5, [.int (0), .ref (71), .int (nI sg), .int (nI li), .ref (72), .int (nI nl), .ref (73), .int (nI ap), .int (nI ns), .ref (74), .ref (75), .ref (76), .ref (77), .ref (78), .ref (79), .ref (80), .ref (81), .ref (82), .ref (83), .ref (84), .int (nI dy), .ref (85), .ref (86), .ref (87), .ref (88), .ref (89), .ref (90)]) ∧ r.2.2 80 = .inl (0, 20, .inl (upd le j (le j - a))) ∧ ∀ y, y ≠ 70 → y ≠ 80 → r.2.2 y = C y) := by
  refine gj_aload_n d_Mo_refund_0 rfl ?_
  refine gj_aload_n d_Mo_refund_1 rfl ?_
  refine gj_iload_n d_Mo_refund_2 rfl ?_
  refine gj_callV (as := [.int (nI j)]) (rest := [.ref (70)]) (K1 := 0) (N1 := 0) d_Mo_refund_3 mo_Mo_noShipment gw_725 gw_727 gw_14 m70 rfl pl_Mo_noShipment (Nat.le_of_ble_eq_true rfl) (Nat.le_of_ble_eq_true rfl) (Nat.zero_le _) (Nat.zero_le _) (c_Mo_noShipment m70 m74 hns hj hg) (fun E n' C' _ h => by cases h) (fun v n' C' _ h => ?_)
  cases h
  refine gj_if_eq (tgt := 13) d_Mo_refund_6 (by decide) (fun h6 => ?_) (fun h6 => absurd (by decide) h6)
  refine gj_iload_n d_Mo_refund_13 rfl ?_
  refine gj_kc (v := 1) d_Mo_refund_14 (by decide) ?_
  refine gj_ldc d_Mo_refund_15 gw_776 ?_
  refine gj_callS (as := [.int (a), .int (1), .int (10000000)]) (rest := [.ref (70)]) (K1 := 0) (N1 := 0) d_Mo_refund_17 mo_Mo_not gw_687 gw_688 gw_25 pl_Mo_not (Nat.le_of_ble_eq_true rfl) (Nat.le_of_ble_eq_true rfl) (Nat.zero_le _) (Nat.zero_le _) (c_Mo_not (a) (1) (10000000)) (fun E n' C' _ h => by cases h) (fun v n' C' _ h => ?_)
  cases h
  refine gj_top (y := 0) (pm_nt0 hc) ?_
  refine gj_if_eq (tgt := 27) d_Mo_refund_20 (by decide) (fun h20 => ?_) (fun h20 => absurd (by decide) h20)
  refine gj_aload_n d_Mo_refund_27 rfl ?_
  refine gj_get d_Mo_refund_28 gf_Mo_57 m70 rfl ?_
  refine gj_iload_n d_Mo_refund_31 rfl ?_
  refine gj_iald d_Mo_refund_32 m80 rfl (vp_in_nI (by omega) (by decide)) ?_
  refine gj_top (y := le (j)) (congrArg le (nI_clamp (by omega))) ?_
  refine gj_iload_n d_Mo_refund_33 rfl ?_
  refine gj_icmp_ge (tgt := 41) d_Mo_refund_34 (by decide) (fun h34 => ?_) (fun h34 => absurd (h) h34)
  refine gj_kc (v := 0) d_Mo_refund_41 (by decide) ?_
  refine gj_put d_Mo_refund_42 gp_Mo_7 m70 (Nat.le_of_ble_eq_true rfl) (fun _ => rfl) (fun _ => rfl) ?_
  obtain ⟨C1, eC1⟩ : ∃ Z0, Z0 = va_up C (70) (.inr (5, [.int (0), .ref (71), .int (nI sg), .int (nI li), .ref (72), .int (nI nl), .ref (73), .int (nI ap), .int (nI ns), .ref (74), .ref (75), .ref (76), .ref (77), .ref (78), .ref (79), .ref (80), .ref (81), .ref (82), .ref (83), .ref (84), .int (nI dy), .ref (85), .ref (86), .ref (87), .ref (88), .ref (89), .ref (90)])) := ⟨_, rfl⟩
  refine gj_mem eC1 ?_
  have f2 : C1 (70) = .inr (5, [.int (0), .ref (71), .int (nI sg), .int (nI li), .ref (72), .int (nI nl), .ref (73), .int (nI ap), .int (nI ns), .ref (74), .ref (75), .ref (76), .ref (77), .ref (78), .ref (79), .ref (80), .ref (81), .ref (82), .ref (83), .ref (84), .int (nI dy), .ref (85), .ref (86), .ref (87), .ref (88), .ref (89), .ref (90)]) := by rw [eC1]; exact va_up_self _ _ _
  have f3 : C1 (74) = .inl (2, 20, .inl go) := by rw [eC1, va_up_ne _ _ (by omega)]; exact m74
  have f4 : C1 (78) = .inl (0, 20, .inl se) := by rw [eC1, va_up_ne _ _ (by omega)]; exact m78
  have f5 : C1 (79) = .inl (0, 20, .inl pr) := by rw [eC1, va_up_ne _ _ (by omega)]; exact m79
  have f6 : C1 (80) = .inl (0, 20, .inl le) := by rw [eC1, va_up_ne _ _ (by omega)]; exact m80
  refine gj_aload_n d_Mo_refund_45 rfl ?_
  refine gj_get d_Mo_refund_46 gf_Mo_7 f2 rfl ?_
  refine gj_if_eq (tgt := 54) d_Mo_refund_49 (by decide) (fun h49 => ?_) (fun h49 => absurd (by decide) h49)
  refine gj_aload_n d_Mo_refund_54 rfl ?_
  refine gj_get d_Mo_refund_55 gf_Mo_57 f2 rfl ?_
  refine gj_iload_n d_Mo_refund_58 rfl ?_
  refine gj_aload_n d_Mo_refund_59 rfl ?_
  refine gj_get d_Mo_refund_60 gf_Mo_57 f2 rfl ?_
  refine gj_iload_n d_Mo_refund_63 rfl ?_
  refine gj_iald d_Mo_refund_64 f6 rfl (vp_in_nI (by omega) (by decide)) ?_
  refine gj_top (y := le (j)) (congrArg le (nI_clamp (by omega))) ?_
  refine gj_iload_n d_Mo_refund_65 rfl ?_
  refine gj_isub d_Mo_refund_66 ?_
  refine gj_iast d_Mo_refund_67 f6 rfl (vp_in_nI (by omega) (by decide)) ?_
  obtain ⟨C7, eC7⟩ : ∃ Z0, Z0 = va_up C1 (80) (.inl (0, 20, .inl (upd le (j) ((le (j)) - (a))))) := ⟨_, rfl⟩
  refine gj_mem (eC7.trans (by rw [nI_clamp (by omega)])) ?_
  have f8 : C7 (70) = .inr (5, [.int (0), .ref (71), .int (nI sg), .int (nI li), .ref (72), .int (nI nl), .ref (73), .int (nI ap), .int (nI ns), .ref (74), .ref (75), .ref (76), .ref (77), .ref (78), .ref (79), .ref (80), .ref (81), .ref (82), .ref (83), .ref (84), .int (nI dy), .ref (85), .ref (86), .ref (87), .ref (88), .ref (89), .ref (90)]) := by rw [eC7, va_up_ne _ _ (by omega)]; exact f2
  have f9 : C7 (74) = .inl (2, 20, .inl go) := by rw [eC7, va_up_ne _ _ (by omega)]; exact f3
  have f10 : C7 (78) = .inl (0, 20, .inl se) := by rw [eC7, va_up_ne _ _ (by omega)]; exact f4
  have f11 : C7 (79) = .inl (0, 20, .inl pr) := by rw [eC7, va_up_ne _ _ (by omega)]; exact f5
  have f12 : C7 (80) = .inl (0, 20, .inl (upd le (j) ((le (j)) - (a)))) := by rw [eC7]; exact va_up_self _ _ _
  refine gj_aload_n d_Mo_refund_68 rfl ?_
  refine gj_get d_Mo_refund_69 gf_Mo_57 f8 rfl ?_
  refine gj_iload_n d_Mo_refund_72 rfl ?_
  refine gj_iald d_Mo_refund_73 f12 rfl (vp_in_nI (by omega) (by decide)) ?_
  refine gj_top (y := (upd le (j) ((le (j)) - (a))) (j)) (congrArg (upd le (j) ((le (j)) - (a))) (nI_clamp (by omega))) ?_
  refine gj_top (y := le j - a) (upd_self _ _ _) ?_
  refine gj_iret rfl (Nat.zero_le _) (Nat.zero_le _) d_Mo_refund_74 ?_
  exact ⟨rfl, rfl, f8, f12, fun y c0 c1 => by show C7 y = C y; rw [eC7, va_up_ne _ _ (by assumption), eC1, va_up_ne _ _ (by assumption)]⟩
set_option maxHeartbeats 2000000 in
theorem c_Mo_told {d K N n sg li nl ap ns dy : Nat} {tc : Int32} {C : Nat → va_E} {go zo gr vo se pr le : Nat → Int32} (m70 : C (70) = .inr (5, [.int (tc), .ref (71), .int (nI sg), .int (nI li), .ref (72), .int (nI nl), .ref (73), .int (nI ap), .int (nI ns), .ref (74), .ref (75), .ref (76), .ref (77), .ref (78), .ref (79), .ref (80), .ref (81), .ref (82), .ref (83), .ref (84), .int (nI dy), .ref (85), .ref (86), .ref (87), .ref (88), .ref (89), .ref (90)])) (m74 : C (74) = .inl (2, 20, .inl go)) (m75 : C (75) = .inl (0, 20, .inl zo)) (m76 : C (76) = .inl (0, 20, .inl gr)) (m77 : C (77) = .inl (0, 20, .inl vo)) (m78 : C (78) = .inl (0, 20, .inl se)) (m79 : C (79) = .inl (0, 20, .inl pr)) (m80 : C (80) = .inl (0, 20, .inl le)) (hns : ns ≤ 20) {j : Nat} {w : Int32} (hj : j < ns) (hg : go j = 0) (hc : 0 ≤ w ∧ w ≤ 5) : gj_G md_Mo_told (d + 1) K N 0 0 0 [(0, .ref (70)), (1, .int (nI j)), (2, .int (w))] [] (n) C (fun r => r.1 = gj_iv (pc_td (zo j) (gr j) (vo j) (se j) (pr j) (le j) w) ∧ r.2.1 = n ∧ r.2.2 70 = .inr (5, [.int (0), .ref (71), .int (nI sg), .int (nI li), .ref (72), .int (nI nl), .ref (73), .int (nI ap), .int (nI ns), .ref (74), .ref (75), .ref (76), .ref (77), .ref (78), .ref (79), .ref (80), .ref (81), .ref (82), .ref (83), .ref (84), .int (nI dy), .ref (85), .ref (86), .ref (87), .ref (88), .ref (89), .ref (90)]) ∧ ∀ y, y ≠ 70 → r.2.2 y = C y) := by
  refine gj_aload_n d_Mo_told_0 rfl ?_
  refine gj_aload_n d_Mo_told_1 rfl ?_
  refine gj_iload_n d_Mo_told_2 rfl ?_
  refine gj_callV (as := [.int (nI j)]) (rest := [.ref (70)]) (K1 := 0) (N1 := 0) d_Mo_told_3 mo_Mo_noShipment gw_725 gw_727 gw_14 m70 rfl pl_Mo_noShipment (Nat.le_of_ble_eq_true rfl) (Nat.le_of_ble_eq_true rfl) (Nat.zero_le _) (Nat.zero_le _) (c_Mo_noShipment m70 m74 hns hj hg) (fun E n' C' _ h => by cases h) (fun v n' C' _ h => ?_)
  cases h
  refine gj_if_eq (tgt := 13) d_Mo_told_6 (by decide) (fun h6 => ?_) (fun h6 => absurd (by decide) h6)
  refine gj_iload_n d_Mo_told_13 rfl ?_
  refine gj_kc (v := 0) d_Mo_told_14 (by decide) ?_
  refine gj_kc (v := 5) d_Mo_told_15 (by decide) ?_
  refine gj_callS (as := [.int (w), .int (0), .int (5)]) (rest := [.ref (70)]) (K1 := 0) (N1 := 0) d_Mo_told_16 mo_Mo_not gw_687 gw_688 gw_25 pl_Mo_not (Nat.le_of_ble_eq_true rfl) (Nat.le_of_ble_eq_true rfl) (Nat.zero_le _) (Nat.zero_le _) (c_Mo_not (w) (0) (5)) (fun E n' C' _ h => by cases h) (fun v n' C' _ h => ?_)
  cases h
  refine gj_top (y := 0) (pm_nt0 hc) ?_
  refine gj_if_eq (tgt := 26) d_Mo_told_19 (by decide) (fun h19 => ?_) (fun h19 => absurd (by decide) h19)
  refine gj_kc (v := 0) d_Mo_told_26 (by decide) ?_
  refine gj_put d_Mo_told_27 gp_Mo_7 m70 (Nat.le_of_ble_eq_true rfl) (fun _ => rfl) (fun _ => rfl) ?_
  obtain ⟨C1, eC1⟩ : ∃ Z0, Z0 = va_up C (70) (.inr (5, [.int (0), .ref (71), .int (nI sg), .int (nI li), .ref (72), .int (nI nl), .ref (73), .int (nI ap), .int (nI ns), .ref (74), .ref (75), .ref (76), .ref (77), .ref (78), .ref (79), .ref (80), .ref (81), .ref (82), .ref (83), .ref (84), .int (nI dy), .ref (85), .ref (86), .ref (87), .ref (88), .ref (89), .ref (90)])) := ⟨_, rfl⟩
  refine gj_mem eC1 ?_
  have f2 : C1 (70) = .inr (5, [.int (0), .ref (71), .int (nI sg), .int (nI li), .ref (72), .int (nI nl), .ref (73), .int (nI ap), .int (nI ns), .ref (74), .ref (75), .ref (76), .ref (77), .ref (78), .ref (79), .ref (80), .ref (81), .ref (82), .ref (83), .ref (84), .int (nI dy), .ref (85), .ref (86), .ref (87), .ref (88), .ref (89), .ref (90)]) := by rw [eC1]; exact va_up_self _ _ _
  have f3 : C1 (74) = .inl (2, 20, .inl go) := by rw [eC1, va_up_ne _ _ (by omega)]; exact m74
  have f4 : C1 (75) = .inl (0, 20, .inl zo) := by rw [eC1, va_up_ne _ _ (by omega)]; exact m75
  have f5 : C1 (76) = .inl (0, 20, .inl gr) := by rw [eC1, va_up_ne _ _ (by omega)]; exact m76
  have f6 : C1 (77) = .inl (0, 20, .inl vo) := by rw [eC1, va_up_ne _ _ (by omega)]; exact m77
  have f7 : C1 (78) = .inl (0, 20, .inl se) := by rw [eC1, va_up_ne _ _ (by omega)]; exact m78
  have f8 : C1 (79) = .inl (0, 20, .inl pr) := by rw [eC1, va_up_ne _ _ (by omega)]; exact m79
  have f9 : C1 (80) = .inl (0, 20, .inl le) := by rw [eC1, va_up_ne _ _ (by omega)]; exact m80
  refine gj_aload_n d_Mo_told_30 rfl ?_
  refine gj_get d_Mo_told_31 gf_Mo_7 f2 rfl ?_
  refine gj_if_eq (tgt := 39) d_Mo_told_34 (by decide) (fun h34 => ?_) (fun h34 => absurd (by decide) h34)
  refine gj_iload_n d_Mo_told_39 rfl ?_
  -- switch
  by_cases s40_0 : w = 0
  · refine gj_tableIn (off := 36) (tgt := 76) d_Mo_told_40 (by rw [s40_0]; decide) (by rw [s40_0]; decide) (by rw [s40_0]; decide) (by decide) ?_
    refine gj_aload_n d_Mo_told_76 rfl ?_
    refine gj_get d_Mo_told_77 gf_Mo_42 f2 rfl ?_
    refine gj_iload_n d_Mo_told_80 rfl ?_
    refine gj_iald d_Mo_told_81 f4 rfl (vp_in_nI (by omega) (by decide)) ?_
    refine gj_top (y := zo (j)) (congrArg zo (nI_clamp (by omega))) ?_
    refine gj_iret rfl (Nat.zero_le _) (Nat.zero_le _) d_Mo_told_82 ?_
    subst s40_0
    exact ⟨rfl, rfl, f2, fun y c0 => by show C1 y = C y; rw [eC1, va_up_ne _ _ (by assumption)]⟩
  · by_cases s40_1 : w = 1
    · refine gj_tableIn (off := 43) (tgt := 83) d_Mo_told_40 (by rw [s40_1]; decide) (by rw [s40_1]; decide) (by rw [s40_1]; decide) (by decide) ?_
      refine gj_aload_n d_Mo_told_83 rfl ?_
      refine gj_get d_Mo_told_84 gf_Mo_45 f2 rfl ?_
      refine gj_iload_n d_Mo_told_87 rfl ?_
      refine gj_iald d_Mo_told_88 f5 rfl (vp_in_nI (by omega) (by decide)) ?_
      refine gj_top (y := gr (j)) (congrArg gr (nI_clamp (by omega))) ?_
      refine gj_iret rfl (Nat.zero_le _) (Nat.zero_le _) d_Mo_told_89 ?_
      subst s40_1
      exact ⟨rfl, rfl, f2, fun y c0 => by show C1 y = C y; rw [eC1, va_up_ne _ _ (by assumption)]⟩
    · by_cases s40_2 : w = 2
      · refine gj_tableIn (off := 50) (tgt := 90) d_Mo_told_40 (by rw [s40_2]; decide) (by rw [s40_2]; decide) (by rw [s40_2]; decide) (by decide) ?_
        refine gj_aload_n d_Mo_told_90 rfl ?_
        refine gj_get d_Mo_told_91 gf_Mo_48 f2 rfl ?_
        refine gj_iload_n d_Mo_told_94 rfl ?_
        refine gj_iald d_Mo_told_95 f6 rfl (vp_in_nI (by omega) (by decide)) ?_
        refine gj_top (y := vo (j)) (congrArg vo (nI_clamp (by omega))) ?_
        refine gj_iret rfl (Nat.zero_le _) (Nat.zero_le _) d_Mo_told_96 ?_
        subst s40_2
        exact ⟨rfl, rfl, f2, fun y c0 => by show C1 y = C y; rw [eC1, va_up_ne _ _ (by assumption)]⟩
      · by_cases s40_3 : w = 3
        · refine gj_tableIn (off := 57) (tgt := 97) d_Mo_told_40 (by rw [s40_3]; decide) (by rw [s40_3]; decide) (by rw [s40_3]; decide) (by decide) ?_
          refine gj_aload_n d_Mo_told_97 rfl ?_
          refine gj_get d_Mo_told_98 gf_Mo_51 f2 rfl ?_
          refine gj_iload_n d_Mo_told_101 rfl ?_
          refine gj_iald d_Mo_told_102 f7 rfl (vp_in_nI (by omega) (by decide)) ?_
          refine gj_top (y := se (j)) (congrArg se (nI_clamp (by omega))) ?_
          refine gj_iret rfl (Nat.zero_le _) (Nat.zero_le _) d_Mo_told_103 ?_
          subst s40_3
          exact ⟨rfl, rfl, f2, fun y c0 => by show C1 y = C y; rw [eC1, va_up_ne _ _ (by assumption)]⟩
        · by_cases s40_4 : w = 4
          · refine gj_tableIn (off := 64) (tgt := 104) d_Mo_told_40 (by rw [s40_4]; decide) (by rw [s40_4]; decide) (by rw [s40_4]; decide) (by decide) ?_
            refine gj_aload_n d_Mo_told_104 rfl ?_
            refine gj_get d_Mo_told_105 gf_Mo_54 f2 rfl ?_
            refine gj_iload_n d_Mo_told_108 rfl ?_
            refine gj_iald d_Mo_told_109 f8 rfl (vp_in_nI (by omega) (by decide)) ?_
            refine gj_top (y := pr (j)) (congrArg pr (nI_clamp (by omega))) ?_
            refine gj_iret rfl (Nat.zero_le _) (Nat.zero_le _) d_Mo_told_110 ?_
            subst s40_4
            exact ⟨rfl, rfl, f2, fun y c0 => by show C1 y = C y; rw [eC1, va_up_ne _ _ (by assumption)]⟩
          · have a40_0 : ¬ (w : Int32).toInt = 0 := fun h => s40_0 (Int32.toInt_inj.mp (h.trans (by decide)))
            have a40_1 : ¬ (w : Int32).toInt = 1 := fun h => s40_1 (Int32.toInt_inj.mp (h.trans (by decide)))
            have a40_2 : ¬ (w : Int32).toInt = 2 := fun h => s40_2 (Int32.toInt_inj.mp (h.trans (by decide)))
            have a40_3 : ¬ (w : Int32).toInt = 3 := fun h => s40_3 (Int32.toInt_inj.mp (h.trans (by decide)))
            have a40_4 : ¬ (w : Int32).toInt = 4 := fun h => s40_4 (Int32.toInt_inj.mp (h.trans (by decide)))
            refine gj_tableOut (tgt := 111) d_Mo_told_40 (by omega) (by decide) ?_
            refine gj_aload_n d_Mo_told_111 rfl ?_
            refine gj_get d_Mo_told_112 gf_Mo_57 f2 rfl ?_
            refine gj_iload_n d_Mo_told_115 rfl ?_
            refine gj_iald d_Mo_told_116 f9 rfl (vp_in_nI (by omega) (by decide)) ?_
            refine gj_top (y := le (j)) (congrArg le (nI_clamp (by omega))) ?_
            refine gj_iret rfl (Nat.zero_le _) (Nat.zero_le _) d_Mo_told_117 ?_
            exact ⟨congrArg gj_iv (by unfold pc_td; rw [if_neg s40_0, if_neg s40_1, if_neg s40_2, if_neg s40_3, if_neg s40_4]), rfl, f2, fun y c0 => by show C1 y = C y; rw [eC1, va_up_ne _ _ (by assumption)]⟩
set_option maxHeartbeats 2000000 in
theorem c_Mo_combine_x2 {d K N n sg li nl ap ns dy : Nat} {tc : Int32} {C : Nat → va_E} {go zo gr vo se : Nat → Int32} (m70 : C (70) = .inr (5, [.int (tc), .ref (71), .int (nI sg), .int (nI li), .ref (72), .int (nI nl), .ref (73), .int (nI ap), .int (nI ns), .ref (74), .ref (75), .ref (76), .ref (77), .ref (78), .ref (79), .ref (80), .ref (81), .ref (82), .ref (83), .ref (84), .int (nI dy), .ref (85), .ref (86), .ref (87), .ref (88), .ref (89), .ref (90)])) (m74 : C (74) = .inl (2, 20, .inl go)) (m75 : C (75) = .inl (0, 20, .inl zo)) (m76 : C (76) = .inl (0, 20, .inl gr)) (m77 : C (77) = .inl (0, 20, .inl vo)) (m78 : C (78) = .inl (0, 20, .inl se)) (hns : ns ≤ 20) {j i : Nat} (hj : j < ns) (hg : go j = 0) (hi : i < ns) (hgi : go i = 0) (h : ¬ (¬ j = i ∧ se j < 0 ∧ se i < 0 ∧ zo j = zo i ∧ gr j + gr i ≤ 100000 ∧ vo j + vo i ≤ 100000000)) : gj_G md_Mo_combine (d + 1) K N 0 0 0 [(0, .ref (70)), (1, .int (nI j)), (2, .int (nI i))] [] (n) C (fun r => r.1 = gj_iv 0 ∧ r.2.1 = n ∧ r.2.2 70 = .inr (5, [.int (2), .ref (71), .int (nI sg), .int (nI li), .ref (72), .int (nI nl), .ref (73), .int (nI ap), .int (nI ns), .ref (74), .ref (75), .ref (76), .ref (77), .ref (78), .ref (79), .ref (80), .ref (81), .ref (82), .ref (83), .ref (84), .int (nI dy), .ref (85), .ref (86), .ref (87), .ref (88), .ref (89), .ref (90)]) ∧ ∀ y, y ≠ 70 → r.2.2 y = C y) := by
  refine gj_aload_n d_Mo_combine_0 rfl ?_
  refine gj_aload_n d_Mo_combine_1 rfl ?_
  refine gj_iload_n d_Mo_combine_2 rfl ?_
  refine gj_callV (as := [.int (nI j)]) (rest := [.ref (70)]) (K1 := 0) (N1 := 0) d_Mo_combine_3 mo_Mo_noShipment gw_725 gw_727 gw_14 m70 rfl pl_Mo_noShipment (Nat.le_of_ble_eq_true rfl) (Nat.le_of_ble_eq_true rfl) (Nat.zero_le _) (Nat.zero_le _) (c_Mo_noShipment m70 m74 hns hj hg) (fun E n' C' _ h => by cases h) (fun v n' C' _ h => ?_)
  cases h
  refine gj_if_ne (tgt := 17) d_Mo_combine_6 (by decide) (fun h6 => absurd (by decide) h6) (fun h6 => ?_)
  refine gj_aload_n d_Mo_combine_9 rfl ?_
  refine gj_iload_n d_Mo_combine_10 rfl ?_
  refine gj_callV (as := [.int (nI i)]) (rest := [.ref (70)]) (K1 := 0) (N1 := 0) d_Mo_combine_11 mo_Mo_noShipment gw_725 gw_727 gw_14 m70 rfl pl_Mo_noShipment (Nat.le_of_ble_eq_true rfl) (Nat.le_of_ble_eq_true rfl) (Nat.zero_le _) (Nat.zero_le _) (c_Mo_noShipment m70 m74 hns hi hgi) (fun E n' C' _ h => by cases h) (fun v n' C' _ h => ?_)
  cases h
  refine gj_if_eq (tgt := 21) d_Mo_combine_14 (by decide) (fun h14 => ?_) (fun h14 => absurd (by decide) h14)
  refine gj_kc (v := 0) d_Mo_combine_21 (by decide) ?_
  refine gj_put d_Mo_combine_22 gp_Mo_7 m70 (Nat.le_of_ble_eq_true rfl) (fun _ => rfl) (fun _ => rfl) ?_
  obtain ⟨C1, eC1⟩ : ∃ Z0, Z0 = va_up C (70) (.inr (5, [.int (0), .ref (71), .int (nI sg), .int (nI li), .ref (72), .int (nI nl), .ref (73), .int (nI ap), .int (nI ns), .ref (74), .ref (75), .ref (76), .ref (77), .ref (78), .ref (79), .ref (80), .ref (81), .ref (82), .ref (83), .ref (84), .int (nI dy), .ref (85), .ref (86), .ref (87), .ref (88), .ref (89), .ref (90)])) := ⟨_, rfl⟩
  refine gj_mem eC1 ?_
  have f2 : C1 (70) = .inr (5, [.int (0), .ref (71), .int (nI sg), .int (nI li), .ref (72), .int (nI nl), .ref (73), .int (nI ap), .int (nI ns), .ref (74), .ref (75), .ref (76), .ref (77), .ref (78), .ref (79), .ref (80), .ref (81), .ref (82), .ref (83), .ref (84), .int (nI dy), .ref (85), .ref (86), .ref (87), .ref (88), .ref (89), .ref (90)]) := by rw [eC1]; exact va_up_self _ _ _
  have f3 : C1 (74) = .inl (2, 20, .inl go) := by rw [eC1, va_up_ne _ _ (by omega)]; exact m74
  have f4 : C1 (75) = .inl (0, 20, .inl zo) := by rw [eC1, va_up_ne _ _ (by omega)]; exact m75
  have f5 : C1 (76) = .inl (0, 20, .inl gr) := by rw [eC1, va_up_ne _ _ (by omega)]; exact m76
  have f6 : C1 (77) = .inl (0, 20, .inl vo) := by rw [eC1, va_up_ne _ _ (by omega)]; exact m77
  have f7 : C1 (78) = .inl (0, 20, .inl se) := by rw [eC1, va_up_ne _ _ (by omega)]; exact m78
  refine gj_aload_n d_Mo_combine_25 rfl ?_
  refine gj_get d_Mo_combine_26 gf_Mo_7 f2 rfl ?_
  refine gj_if_eq (tgt := 34) d_Mo_combine_29 (by decide) (fun h29 => ?_) (fun h29 => absurd (by decide) h29)
  refine gj_iload_n d_Mo_combine_34 rfl ?_
  refine gj_iload_n d_Mo_combine_35 rfl ?_
  refine gj_icmp_eq (tgt := 108) d_Mo_combine_36 (by decide) (fun h36 => ?_) (fun h36 => ?_)
  · have m36 : j = i := (nI_eq (a := j) (b := i) (by omega) (by omega)).mp h36
    refine gj_kc (v := 1) d_Mo_combine_108 (by decide) ?_
    refine gj_goto (tgt := 113) d_Mo_combine_109 (by decide) ?_
    refine gj_istore_n d_Mo_combine_113 (by decide) ?_
    refine gj_aload_n d_Mo_combine_114 rfl ?_
    refine gj_iload_n d_Mo_combine_115 rfl ?_
    refine gj_if_eq (tgt := 123) d_Mo_combine_116 (by decide) (fun h116 => absurd h116 (by decide)) (fun h116 => ?_)
    refine gj_kc (v := 2) d_Mo_combine_119 (by decide) ?_
    refine gj_goto (tgt := 124) d_Mo_combine_120 (by decide) ?_
    refine gj_put d_Mo_combine_124 gp_Mo_7 f2 (Nat.le_of_ble_eq_true rfl) (fun _ => rfl) (fun _ => rfl) ?_
    obtain ⟨C8, eC8⟩ : ∃ Z0, Z0 = va_up C1 (70) (.inr (5, [.int (2), .ref (71), .int (nI sg), .int (nI li), .ref (72), .int (nI nl), .ref (73), .int (nI ap), .int (nI ns), .ref (74), .ref (75), .ref (76), .ref (77), .ref (78), .ref (79), .ref (80), .ref (81), .ref (82), .ref (83), .ref (84), .int (nI dy), .ref (85), .ref (86), .ref (87), .ref (88), .ref (89), .ref (90)])) := ⟨_, rfl⟩
    refine gj_mem eC8 ?_
    have f9 : C8 (70) = .inr (5, [.int (2), .ref (71), .int (nI sg), .int (nI li), .ref (72), .int (nI nl), .ref (73), .int (nI ap), .int (nI ns), .ref (74), .ref (75), .ref (76), .ref (77), .ref (78), .ref (79), .ref (80), .ref (81), .ref (82), .ref (83), .ref (84), .int (nI dy), .ref (85), .ref (86), .ref (87), .ref (88), .ref (89), .ref (90)]) := by rw [eC8]; exact va_up_self _ _ _
    have f10 : C8 (74) = .inl (2, 20, .inl go) := by rw [eC8, va_up_ne _ _ (by omega)]; exact f3
    have f11 : C8 (75) = .inl (0, 20, .inl zo) := by rw [eC8, va_up_ne _ _ (by omega)]; exact f4
    have f12 : C8 (76) = .inl (0, 20, .inl gr) := by rw [eC8, va_up_ne _ _ (by omega)]; exact f5
    have f13 : C8 (77) = .inl (0, 20, .inl vo) := by rw [eC8, va_up_ne _ _ (by omega)]; exact f6
    have f14 : C8 (78) = .inl (0, 20, .inl se) := by rw [eC8, va_up_ne _ _ (by omega)]; exact f7
    refine gj_iload_n d_Mo_combine_127 rfl ?_
    refine gj_if_eq (tgt := 133) d_Mo_combine_128 (by decide) (fun h128 => absurd h128 (by decide)) (fun h128 => ?_)
    refine gj_kc (v := 0) d_Mo_combine_131 (by decide) ?_
    refine gj_iret rfl (Nat.zero_le _) (Nat.zero_le _) d_Mo_combine_132 ?_
    exact ⟨rfl, rfl, f9, fun y c0 => by show C8 y = C y; rw [eC8, va_up_ne _ _ (by assumption), eC1, va_up_ne _ _ (by assumption)]⟩
  · have m36 : ¬ (j = i) := fun q => h36 ((nI_eq (a := j) (b := i) (by omega) (by omega)).mpr q)
    refine gj_aload_n d_Mo_combine_39 rfl ?_
    refine gj_get d_Mo_combine_40 gf_Mo_51 f2 rfl ?_
    refine gj_iload_n d_Mo_combine_43 rfl ?_
    refine gj_iald d_Mo_combine_44 f7 rfl (vp_in_nI (by omega) (by decide)) ?_
    refine gj_top (y := se (j)) (congrArg se (nI_clamp (by omega))) ?_
    refine gj_if_ge (tgt := 108) d_Mo_combine_45 (by decide) (fun h45 => ?_) (fun h45 => ?_)
    · refine gj_kc (v := 1) d_Mo_combine_108 (by decide) ?_
      refine gj_goto (tgt := 113) d_Mo_combine_109 (by decide) ?_
      refine gj_istore_n d_Mo_combine_113 (by decide) ?_
      refine gj_aload_n d_Mo_combine_114 rfl ?_
      refine gj_iload_n d_Mo_combine_115 rfl ?_
      refine gj_if_eq (tgt := 123) d_Mo_combine_116 (by decide) (fun h116 => absurd h116 (by decide)) (fun h116 => ?_)
      refine gj_kc (v := 2) d_Mo_combine_119 (by decide) ?_
      refine gj_goto (tgt := 124) d_Mo_combine_120 (by decide) ?_
      refine gj_put d_Mo_combine_124 gp_Mo_7 f2 (Nat.le_of_ble_eq_true rfl) (fun _ => rfl) (fun _ => rfl) ?_
      obtain ⟨C15, eC15⟩ : ∃ Z0, Z0 = va_up C1 (70) (.inr (5, [.int (2), .ref (71), .int (nI sg), .int (nI li), .ref (72), .int (nI nl), .ref (73), .int (nI ap), .int (nI ns), .ref (74), .ref (75), .ref (76), .ref (77), .ref (78), .ref (79), .ref (80), .ref (81), .ref (82), .ref (83), .ref (84), .int (nI dy), .ref (85), .ref (86), .ref (87), .ref (88), .ref (89), .ref (90)])) := ⟨_, rfl⟩
      refine gj_mem eC15 ?_
      have f16 : C15 (70) = .inr (5, [.int (2), .ref (71), .int (nI sg), .int (nI li), .ref (72), .int (nI nl), .ref (73), .int (nI ap), .int (nI ns), .ref (74), .ref (75), .ref (76), .ref (77), .ref (78), .ref (79), .ref (80), .ref (81), .ref (82), .ref (83), .ref (84), .int (nI dy), .ref (85), .ref (86), .ref (87), .ref (88), .ref (89), .ref (90)]) := by rw [eC15]; exact va_up_self _ _ _
      have f17 : C15 (74) = .inl (2, 20, .inl go) := by rw [eC15, va_up_ne _ _ (by omega)]; exact f3
      have f18 : C15 (75) = .inl (0, 20, .inl zo) := by rw [eC15, va_up_ne _ _ (by omega)]; exact f4
      have f19 : C15 (76) = .inl (0, 20, .inl gr) := by rw [eC15, va_up_ne _ _ (by omega)]; exact f5
      have f20 : C15 (77) = .inl (0, 20, .inl vo) := by rw [eC15, va_up_ne _ _ (by omega)]; exact f6
      have f21 : C15 (78) = .inl (0, 20, .inl se) := by rw [eC15, va_up_ne _ _ (by omega)]; exact f7
      refine gj_iload_n d_Mo_combine_127 rfl ?_
      refine gj_if_eq (tgt := 133) d_Mo_combine_128 (by decide) (fun h128 => absurd h128 (by decide)) (fun h128 => ?_)
      refine gj_kc (v := 0) d_Mo_combine_131 (by decide) ?_
      refine gj_iret rfl (Nat.zero_le _) (Nat.zero_le _) d_Mo_combine_132 ?_
      exact ⟨rfl, rfl, f16, fun y c0 => by show C15 y = C y; rw [eC15, va_up_ne _ _ (by assumption), eC1, va_up_ne _ _ (by assumption)]⟩
    · refine gj_aload_n d_Mo_combine_48 rfl ?_
      refine gj_get d_Mo_combine_49 gf_Mo_51 f2 rfl ?_
      refine gj_iload_n d_Mo_combine_52 rfl ?_
      refine gj_iald d_Mo_combine_53 f7 rfl (vp_in_nI (by omega) (by decide)) ?_
      refine gj_top (y := se (i)) (congrArg se (nI_clamp (by omega))) ?_
      refine gj_if_ge (tgt := 108) d_Mo_combine_54 (by decide) (fun h54 => ?_) (fun h54 => ?_)
      · refine gj_kc (v := 1) d_Mo_combine_108 (by decide) ?_
        refine gj_goto (tgt := 113) d_Mo_combine_109 (by decide) ?_
        refine gj_istore_n d_Mo_combine_113 (by decide) ?_
        refine gj_aload_n d_Mo_combine_114 rfl ?_
        refine gj_iload_n d_Mo_combine_115 rfl ?_
        refine gj_if_eq (tgt := 123) d_Mo_combine_116 (by decide) (fun h116 => absurd h116 (by decide)) (fun h116 => ?_)
        refine gj_kc (v := 2) d_Mo_combine_119 (by decide) ?_
        refine gj_goto (tgt := 124) d_Mo_combine_120 (by decide) ?_
        refine gj_put d_Mo_combine_124 gp_Mo_7 f2 (Nat.le_of_ble_eq_true rfl) (fun _ => rfl) (fun _ => rfl) ?_
        obtain ⟨C22, eC22⟩ : ∃ Z0, Z0 = va_up C1 (70) (.inr (5, [.int (2), .ref (71), .int (nI sg), .int (nI li), .ref (72), .int (nI nl), .ref (73), .int (nI ap), .int (nI ns), .ref (74), .ref (75), .ref (76), .ref (77), .ref (78), .ref (79), .ref (80), .ref (81), .ref (82), .ref (83), .ref (84), .int (nI dy), .ref (85), .ref (86), .ref (87), .ref (88), .ref (89), .ref (90)])) := ⟨_, rfl⟩
        refine gj_mem eC22 ?_
        have f23 : C22 (70) = .inr (5, [.int (2), .ref (71), .int (nI sg), .int (nI li), .ref (72), .int (nI nl), .ref (73), .int (nI ap), .int (nI ns), .ref (74), .ref (75), .ref (76), .ref (77), .ref (78), .ref (79), .ref (80), .ref (81), .ref (82), .ref (83), .ref (84), .int (nI dy), .ref (85), .ref (86), .ref (87), .ref (88), .ref (89), .ref (90)]) := by rw [eC22]; exact va_up_self _ _ _
        have f24 : C22 (74) = .inl (2, 20, .inl go) := by rw [eC22, va_up_ne _ _ (by omega)]; exact f3
        have f25 : C22 (75) = .inl (0, 20, .inl zo) := by rw [eC22, va_up_ne _ _ (by omega)]; exact f4
        have f26 : C22 (76) = .inl (0, 20, .inl gr) := by rw [eC22, va_up_ne _ _ (by omega)]; exact f5
        have f27 : C22 (77) = .inl (0, 20, .inl vo) := by rw [eC22, va_up_ne _ _ (by omega)]; exact f6
        have f28 : C22 (78) = .inl (0, 20, .inl se) := by rw [eC22, va_up_ne _ _ (by omega)]; exact f7
        refine gj_iload_n d_Mo_combine_127 rfl ?_
        refine gj_if_eq (tgt := 133) d_Mo_combine_128 (by decide) (fun h128 => absurd h128 (by decide)) (fun h128 => ?_)
        refine gj_kc (v := 0) d_Mo_combine_131 (by decide) ?_
        refine gj_iret rfl (Nat.zero_le _) (Nat.zero_le _) d_Mo_combine_132 ?_
        exact ⟨rfl, rfl, f23, fun y c0 => by show C22 y = C y; rw [eC22, va_up_ne _ _ (by assumption), eC1, va_up_ne _ _ (by assumption)]⟩
      · refine gj_aload_n d_Mo_combine_57 rfl ?_
        refine gj_get d_Mo_combine_58 gf_Mo_42 f2 rfl ?_
        refine gj_iload_n d_Mo_combine_61 rfl ?_
        refine gj_iald d_Mo_combine_62 f4 rfl (vp_in_nI (by omega) (by decide)) ?_
        refine gj_top (y := zo (j)) (congrArg zo (nI_clamp (by omega))) ?_
        refine gj_aload_n d_Mo_combine_63 rfl ?_
        refine gj_get d_Mo_combine_64 gf_Mo_42 f2 rfl ?_
        refine gj_iload_n d_Mo_combine_67 rfl ?_
        refine gj_iald d_Mo_combine_68 f4 rfl (vp_in_nI (by omega) (by decide)) ?_
        refine gj_top (y := zo (i)) (congrArg zo (nI_clamp (by omega))) ?_
        refine gj_icmp_ne (tgt := 108) d_Mo_combine_69 (by decide) (fun h69 => ?_) (fun h69 => ?_)
        · refine gj_kc (v := 1) d_Mo_combine_108 (by decide) ?_
          refine gj_goto (tgt := 113) d_Mo_combine_109 (by decide) ?_
          refine gj_istore_n d_Mo_combine_113 (by decide) ?_
          refine gj_aload_n d_Mo_combine_114 rfl ?_
          refine gj_iload_n d_Mo_combine_115 rfl ?_
          refine gj_if_eq (tgt := 123) d_Mo_combine_116 (by decide) (fun h116 => absurd h116 (by decide)) (fun h116 => ?_)
          refine gj_kc (v := 2) d_Mo_combine_119 (by decide) ?_
          refine gj_goto (tgt := 124) d_Mo_combine_120 (by decide) ?_
          refine gj_put d_Mo_combine_124 gp_Mo_7 f2 (Nat.le_of_ble_eq_true rfl) (fun _ => rfl) (fun _ => rfl) ?_
          obtain ⟨C29, eC29⟩ : ∃ Z0, Z0 = va_up C1 (70) (.inr (5, [.int (2), .ref (71), .int (nI sg), .int (nI li), .ref (72), .int (nI nl), .ref (73), .int (nI ap), .int (nI ns), .ref (74), .ref (75), .ref (76), .ref (77), .ref (78), .ref (79), .ref (80), .ref (81), .ref (82), .ref (83), .ref (84), .int (nI dy), .ref (85), .ref (86), .ref (87), .ref (88), .ref (89), .ref (90)])) := ⟨_, rfl⟩
          refine gj_mem eC29 ?_
          have f30 : C29 (70) = .inr (5, [.int (2), .ref (71), .int (nI sg), .int (nI li), .ref (72), .int (nI nl), .ref (73), .int (nI ap), .int (nI ns), .ref (74), .ref (75), .ref (76), .ref (77), .ref (78), .ref (79), .ref (80), .ref (81), .ref (82), .ref (83), .ref (84), .int (nI dy), .ref (85), .ref (86), .ref (87), .ref (88), .ref (89), .ref (90)]) := by rw [eC29]; exact va_up_self _ _ _
          have f31 : C29 (74) = .inl (2, 20, .inl go) := by rw [eC29, va_up_ne _ _ (by omega)]; exact f3
          have f32 : C29 (75) = .inl (0, 20, .inl zo) := by rw [eC29, va_up_ne _ _ (by omega)]; exact f4
          have f33 : C29 (76) = .inl (0, 20, .inl gr) := by rw [eC29, va_up_ne _ _ (by omega)]; exact f5
          have f34 : C29 (77) = .inl (0, 20, .inl vo) := by rw [eC29, va_up_ne _ _ (by omega)]; exact f6
          have f35 : C29 (78) = .inl (0, 20, .inl se) := by rw [eC29, va_up_ne _ _ (by omega)]; exact f7
          refine gj_iload_n d_Mo_combine_127 rfl ?_
          refine gj_if_eq (tgt := 133) d_Mo_combine_128 (by decide) (fun h128 => absurd h128 (by decide)) (fun h128 => ?_)
          refine gj_kc (v := 0) d_Mo_combine_131 (by decide) ?_
          refine gj_iret rfl (Nat.zero_le _) (Nat.zero_le _) d_Mo_combine_132 ?_
          exact ⟨rfl, rfl, f30, fun y c0 => by show C29 y = C y; rw [eC29, va_up_ne _ _ (by assumption), eC1, va_up_ne _ _ (by assumption)]⟩
        · refine gj_aload_n d_Mo_combine_72 rfl ?_
          refine gj_get d_Mo_combine_73 gf_Mo_45 f2 rfl ?_
          refine gj_iload_n d_Mo_combine_76 rfl ?_
          refine gj_iald d_Mo_combine_77 f5 rfl (vp_in_nI (by omega) (by decide)) ?_
          refine gj_top (y := gr (j)) (congrArg gr (nI_clamp (by omega))) ?_
          refine gj_aload_n d_Mo_combine_78 rfl ?_
          refine gj_get d_Mo_combine_79 gf_Mo_45 f2 rfl ?_
          refine gj_iload_n d_Mo_combine_82 rfl ?_
          refine gj_iald d_Mo_combine_83 f5 rfl (vp_in_nI (by omega) (by decide)) ?_
          refine gj_top (y := gr (i)) (congrArg gr (nI_clamp (by omega))) ?_
          refine gj_iadd d_Mo_combine_84 ?_
          refine gj_ldc d_Mo_combine_85 gw_706 ?_
          refine gj_icmp_gt (tgt := 108) d_Mo_combine_87 (by decide) (fun h87 => ?_) (fun h87 => ?_)
          · refine gj_kc (v := 1) d_Mo_combine_108 (by decide) ?_
            refine gj_goto (tgt := 113) d_Mo_combine_109 (by decide) ?_
            refine gj_istore_n d_Mo_combine_113 (by decide) ?_
            refine gj_aload_n d_Mo_combine_114 rfl ?_
            refine gj_iload_n d_Mo_combine_115 rfl ?_
            refine gj_if_eq (tgt := 123) d_Mo_combine_116 (by decide) (fun h116 => absurd h116 (by decide)) (fun h116 => ?_)
            refine gj_kc (v := 2) d_Mo_combine_119 (by decide) ?_
            refine gj_goto (tgt := 124) d_Mo_combine_120 (by decide) ?_
            refine gj_put d_Mo_combine_124 gp_Mo_7 f2 (Nat.le_of_ble_eq_true rfl) (fun _ => rfl) (fun _ => rfl) ?_
            obtain ⟨C36, eC36⟩ : ∃ Z0, Z0 = va_up C1 (70) (.inr (5, [.int (2), .ref (71), .int (nI sg), .int (nI li), .ref (72), .int (nI nl), .ref (73), .int (nI ap), .int (nI ns), .ref (74), .ref (75), .ref (76), .ref (77), .ref (78), .ref (79), .ref (80), .ref (81), .ref (82), .ref (83), .ref (84), .int (nI dy), .ref (85), .ref (86), .ref (87), .ref (88), .ref (89), .ref (90)])) := ⟨_, rfl⟩
            refine gj_mem eC36 ?_
            have f37 : C36 (70) = .inr (5, [.int (2), .ref (71), .int (nI sg), .int (nI li), .ref (72), .int (nI nl), .ref (73), .int (nI ap), .int (nI ns), .ref (74), .ref (75), .ref (76), .ref (77), .ref (78), .ref (79), .ref (80), .ref (81), .ref (82), .ref (83), .ref (84), .int (nI dy), .ref (85), .ref (86), .ref (87), .ref (88), .ref (89), .ref (90)]) := by rw [eC36]; exact va_up_self _ _ _
            have f38 : C36 (74) = .inl (2, 20, .inl go) := by rw [eC36, va_up_ne _ _ (by omega)]; exact f3
            have f39 : C36 (75) = .inl (0, 20, .inl zo) := by rw [eC36, va_up_ne _ _ (by omega)]; exact f4
            have f40 : C36 (76) = .inl (0, 20, .inl gr) := by rw [eC36, va_up_ne _ _ (by omega)]; exact f5
            have f41 : C36 (77) = .inl (0, 20, .inl vo) := by rw [eC36, va_up_ne _ _ (by omega)]; exact f6
            have f42 : C36 (78) = .inl (0, 20, .inl se) := by rw [eC36, va_up_ne _ _ (by omega)]; exact f7
            refine gj_iload_n d_Mo_combine_127 rfl ?_
            refine gj_if_eq (tgt := 133) d_Mo_combine_128 (by decide) (fun h128 => absurd h128 (by decide)) (fun h128 => ?_)
            refine gj_kc (v := 0) d_Mo_combine_131 (by decide) ?_
            refine gj_iret rfl (Nat.zero_le _) (Nat.zero_le _) d_Mo_combine_132 ?_
            exact ⟨rfl, rfl, f37, fun y c0 => by show C36 y = C y; rw [eC36, va_up_ne _ _ (by assumption), eC1, va_up_ne _ _ (by assumption)]⟩
          · refine gj_aload_n d_Mo_combine_90 rfl ?_
            refine gj_get d_Mo_combine_91 gf_Mo_48 f2 rfl ?_
            refine gj_iload_n d_Mo_combine_94 rfl ?_
            refine gj_iald d_Mo_combine_95 f6 rfl (vp_in_nI (by omega) (by decide)) ?_
            refine gj_top (y := vo (j)) (congrArg vo (nI_clamp (by omega))) ?_
            refine gj_aload_n d_Mo_combine_96 rfl ?_
            refine gj_get d_Mo_combine_97 gf_Mo_48 f2 rfl ?_
            refine gj_iload_n d_Mo_combine_100 rfl ?_
            refine gj_iald d_Mo_combine_101 f6 rfl (vp_in_nI (by omega) (by decide)) ?_
            refine gj_top (y := vo (i)) (congrArg vo (nI_clamp (by omega))) ?_
            refine gj_iadd d_Mo_combine_102 ?_
            refine gj_ldc d_Mo_combine_103 gw_720 ?_
            refine gj_icmp_le (tgt := 112) d_Mo_combine_105 (by decide) (fun h105 => ?_) (fun h105 => ?_)
            · exact absurd ⟨m36, Int32.not_le.mp h45, Int32.not_le.mp h54, h69, Int32.not_lt.mp h87, h105⟩ h
            · refine gj_kc (v := 1) d_Mo_combine_108 (by decide) ?_
              refine gj_goto (tgt := 113) d_Mo_combine_109 (by decide) ?_
              refine gj_istore_n d_Mo_combine_113 (by decide) ?_
              refine gj_aload_n d_Mo_combine_114 rfl ?_
              refine gj_iload_n d_Mo_combine_115 rfl ?_
              refine gj_if_eq (tgt := 123) d_Mo_combine_116 (by decide) (fun h116 => absurd h116 (by decide)) (fun h116 => ?_)
              refine gj_kc (v := 2) d_Mo_combine_119 (by decide) ?_
              refine gj_goto (tgt := 124) d_Mo_combine_120 (by decide) ?_
              refine gj_put d_Mo_combine_124 gp_Mo_7 f2 (Nat.le_of_ble_eq_true rfl) (fun _ => rfl) (fun _ => rfl) ?_
              obtain ⟨C43, eC43⟩ : ∃ Z0, Z0 = va_up C1 (70) (.inr (5, [.int (2), .ref (71), .int (nI sg), .int (nI li), .ref (72), .int (nI nl), .ref (73), .int (nI ap), .int (nI ns), .ref (74), .ref (75), .ref (76), .ref (77), .ref (78), .ref (79), .ref (80), .ref (81), .ref (82), .ref (83), .ref (84), .int (nI dy), .ref (85), .ref (86), .ref (87), .ref (88), .ref (89), .ref (90)])) := ⟨_, rfl⟩
              refine gj_mem eC43 ?_
              have f44 : C43 (70) = .inr (5, [.int (2), .ref (71), .int (nI sg), .int (nI li), .ref (72), .int (nI nl), .ref (73), .int (nI ap), .int (nI ns), .ref (74), .ref (75), .ref (76), .ref (77), .ref (78), .ref (79), .ref (80), .ref (81), .ref (82), .ref (83), .ref (84), .int (nI dy), .ref (85), .ref (86), .ref (87), .ref (88), .ref (89), .ref (90)]) := by rw [eC43]; exact va_up_self _ _ _
              have f45 : C43 (74) = .inl (2, 20, .inl go) := by rw [eC43, va_up_ne _ _ (by omega)]; exact f3
              have f46 : C43 (75) = .inl (0, 20, .inl zo) := by rw [eC43, va_up_ne _ _ (by omega)]; exact f4
              have f47 : C43 (76) = .inl (0, 20, .inl gr) := by rw [eC43, va_up_ne _ _ (by omega)]; exact f5
              have f48 : C43 (77) = .inl (0, 20, .inl vo) := by rw [eC43, va_up_ne _ _ (by omega)]; exact f6
              have f49 : C43 (78) = .inl (0, 20, .inl se) := by rw [eC43, va_up_ne _ _ (by omega)]; exact f7
              refine gj_iload_n d_Mo_combine_127 rfl ?_
              refine gj_if_eq (tgt := 133) d_Mo_combine_128 (by decide) (fun h128 => absurd h128 (by decide)) (fun h128 => ?_)
              refine gj_kc (v := 0) d_Mo_combine_131 (by decide) ?_
              refine gj_iret rfl (Nat.zero_le _) (Nat.zero_le _) d_Mo_combine_132 ?_
              exact ⟨rfl, rfl, f44, fun y c0 => by show C43 y = C y; rw [eC43, va_up_ne _ _ (by assumption), eC1, va_up_ne _ _ (by assumption)]⟩
set_option maxHeartbeats 2000000 in
theorem c_Mo_combine {d K N n sg li nl ap ns dy : Nat} {tc : Int32} {C : Nat → va_E} {go zo gr vo se : Nat → Int32} (m70 : C (70) = .inr (5, [.int (tc), .ref (71), .int (nI sg), .int (nI li), .ref (72), .int (nI nl), .ref (73), .int (nI ap), .int (nI ns), .ref (74), .ref (75), .ref (76), .ref (77), .ref (78), .ref (79), .ref (80), .ref (81), .ref (82), .ref (83), .ref (84), .int (nI dy), .ref (85), .ref (86), .ref (87), .ref (88), .ref (89), .ref (90)])) (m74 : C (74) = .inl (2, 20, .inl go)) (m75 : C (75) = .inl (0, 20, .inl zo)) (m76 : C (76) = .inl (0, 20, .inl gr)) (m77 : C (77) = .inl (0, 20, .inl vo)) (m78 : C (78) = .inl (0, 20, .inl se)) (hns : ns ≤ 20) {j i : Nat} (hj : j < ns) (hg : go j = 0) (hi : i < ns) (hgi : go i = 0) (h : ¬ j = i ∧ se j < 0 ∧ se i < 0 ∧ zo j = zo i ∧ gr j + gr i ≤ 100000 ∧ vo j + vo i ≤ 100000000) : gj_G md_Mo_combine (d + 1) K N 0 0 0 [(0, .ref (70)), (1, .int (nI j)), (2, .int (nI i))] [] (n) C (fun r => r.1 = gj_iv (gr j + gr i) ∧ r.2.1 = n ∧ r.2.2 70 = .inr (5, [.int (0), .ref (71), .int (nI sg), .int (nI li), .ref (72), .int (nI nl), .ref (73), .int (nI ap), .int (nI ns), .ref (74), .ref (75), .ref (76), .ref (77), .ref (78), .ref (79), .ref (80), .ref (81), .ref (82), .ref (83), .ref (84), .int (nI dy), .ref (85), .ref (86), .ref (87), .ref (88), .ref (89), .ref (90)]) ∧ r.2.2 74 = .inl (2, 20, .inl (upd go i 1)) ∧ r.2.2 76 = .inl (0, 20, .inl (upd gr j (gr j + gr i))) ∧ r.2.2 77 = .inl (0, 20, .inl (upd vo j (vo j + vo i))) ∧ ∀ y, y ≠ 70 → y ≠ 74 → y ≠ 76 → y ≠ 77 → r.2.2 y = C y) := by
  refine gj_aload_n d_Mo_combine_0 rfl ?_
  refine gj_aload_n d_Mo_combine_1 rfl ?_
  refine gj_iload_n d_Mo_combine_2 rfl ?_
  refine gj_callV (as := [.int (nI j)]) (rest := [.ref (70)]) (K1 := 0) (N1 := 0) d_Mo_combine_3 mo_Mo_noShipment gw_725 gw_727 gw_14 m70 rfl pl_Mo_noShipment (Nat.le_of_ble_eq_true rfl) (Nat.le_of_ble_eq_true rfl) (Nat.zero_le _) (Nat.zero_le _) (c_Mo_noShipment m70 m74 hns hj hg) (fun E n' C' _ h => by cases h) (fun v n' C' _ h => ?_)
  cases h
  refine gj_if_ne (tgt := 17) d_Mo_combine_6 (by decide) (fun h6 => absurd (by decide) h6) (fun h6 => ?_)
  refine gj_aload_n d_Mo_combine_9 rfl ?_
  refine gj_iload_n d_Mo_combine_10 rfl ?_
  refine gj_callV (as := [.int (nI i)]) (rest := [.ref (70)]) (K1 := 0) (N1 := 0) d_Mo_combine_11 mo_Mo_noShipment gw_725 gw_727 gw_14 m70 rfl pl_Mo_noShipment (Nat.le_of_ble_eq_true rfl) (Nat.le_of_ble_eq_true rfl) (Nat.zero_le _) (Nat.zero_le _) (c_Mo_noShipment m70 m74 hns hi hgi) (fun E n' C' _ h => by cases h) (fun v n' C' _ h => ?_)
  cases h
  refine gj_if_eq (tgt := 21) d_Mo_combine_14 (by decide) (fun h14 => ?_) (fun h14 => absurd (by decide) h14)
  refine gj_kc (v := 0) d_Mo_combine_21 (by decide) ?_
  refine gj_put d_Mo_combine_22 gp_Mo_7 m70 (Nat.le_of_ble_eq_true rfl) (fun _ => rfl) (fun _ => rfl) ?_
  obtain ⟨C1, eC1⟩ : ∃ Z0, Z0 = va_up C (70) (.inr (5, [.int (0), .ref (71), .int (nI sg), .int (nI li), .ref (72), .int (nI nl), .ref (73), .int (nI ap), .int (nI ns), .ref (74), .ref (75), .ref (76), .ref (77), .ref (78), .ref (79), .ref (80), .ref (81), .ref (82), .ref (83), .ref (84), .int (nI dy), .ref (85), .ref (86), .ref (87), .ref (88), .ref (89), .ref (90)])) := ⟨_, rfl⟩
  refine gj_mem eC1 ?_
  have f2 : C1 (70) = .inr (5, [.int (0), .ref (71), .int (nI sg), .int (nI li), .ref (72), .int (nI nl), .ref (73), .int (nI ap), .int (nI ns), .ref (74), .ref (75), .ref (76), .ref (77), .ref (78), .ref (79), .ref (80), .ref (81), .ref (82), .ref (83), .ref (84), .int (nI dy), .ref (85), .ref (86), .ref (87), .ref (88), .ref (89), .ref (90)]) := by rw [eC1]; exact va_up_self _ _ _
  have f3 : C1 (74) = .inl (2, 20, .inl go) := by rw [eC1, va_up_ne _ _ (by omega)]; exact m74
  have f4 : C1 (75) = .inl (0, 20, .inl zo) := by rw [eC1, va_up_ne _ _ (by omega)]; exact m75
  have f5 : C1 (76) = .inl (0, 20, .inl gr) := by rw [eC1, va_up_ne _ _ (by omega)]; exact m76
  have f6 : C1 (77) = .inl (0, 20, .inl vo) := by rw [eC1, va_up_ne _ _ (by omega)]; exact m77
  have f7 : C1 (78) = .inl (0, 20, .inl se) := by rw [eC1, va_up_ne _ _ (by omega)]; exact m78
  refine gj_aload_n d_Mo_combine_25 rfl ?_
  refine gj_get d_Mo_combine_26 gf_Mo_7 f2 rfl ?_
  refine gj_if_eq (tgt := 34) d_Mo_combine_29 (by decide) (fun h29 => ?_) (fun h29 => absurd (by decide) h29)
  refine gj_iload_n d_Mo_combine_34 rfl ?_
  refine gj_iload_n d_Mo_combine_35 rfl ?_
  refine gj_icmp_eq (tgt := 108) d_Mo_combine_36 (by decide) (fun h36 => by have m36 : j = i := (nI_eq (a := j) (b := i) (by omega) (by omega)).mp h36; exact absurd m36 (show ¬ (j = i) from h.1)) (fun h36 => ?_)
  have m36 : ¬ (j = i) := fun q => h36 ((nI_eq (a := j) (b := i) (by omega) (by omega)).mpr q)
  refine gj_aload_n d_Mo_combine_39 rfl ?_
  refine gj_get d_Mo_combine_40 gf_Mo_51 f2 rfl ?_
  refine gj_iload_n d_Mo_combine_43 rfl ?_
  refine gj_iald d_Mo_combine_44 f7 rfl (vp_in_nI (by omega) (by decide)) ?_
  refine gj_top (y := se (j)) (congrArg se (nI_clamp (by omega))) ?_
  refine gj_if_ge (tgt := 108) d_Mo_combine_45 (by decide) (fun h45 => absurd h45 (Int32.not_le.mpr h.2.1)) (fun h45 => ?_)
  refine gj_aload_n d_Mo_combine_48 rfl ?_
  refine gj_get d_Mo_combine_49 gf_Mo_51 f2 rfl ?_
  refine gj_iload_n d_Mo_combine_52 rfl ?_
  refine gj_iald d_Mo_combine_53 f7 rfl (vp_in_nI (by omega) (by decide)) ?_
  refine gj_top (y := se (i)) (congrArg se (nI_clamp (by omega))) ?_
  refine gj_if_ge (tgt := 108) d_Mo_combine_54 (by decide) (fun h54 => absurd h54 (Int32.not_le.mpr h.2.2.1)) (fun h54 => ?_)
  refine gj_aload_n d_Mo_combine_57 rfl ?_
  refine gj_get d_Mo_combine_58 gf_Mo_42 f2 rfl ?_
  refine gj_iload_n d_Mo_combine_61 rfl ?_
  refine gj_iald d_Mo_combine_62 f4 rfl (vp_in_nI (by omega) (by decide)) ?_
  refine gj_top (y := zo (j)) (congrArg zo (nI_clamp (by omega))) ?_
  refine gj_aload_n d_Mo_combine_63 rfl ?_
  refine gj_get d_Mo_combine_64 gf_Mo_42 f2 rfl ?_
  refine gj_iload_n d_Mo_combine_67 rfl ?_
  refine gj_iald d_Mo_combine_68 f4 rfl (vp_in_nI (by omega) (by decide)) ?_
  refine gj_top (y := zo (i)) (congrArg zo (nI_clamp (by omega))) ?_
  refine gj_icmp_ne (tgt := 108) d_Mo_combine_69 (by decide) (fun h69 => absurd (h.2.2.2.1) h69) (fun h69 => ?_)
  refine gj_aload_n d_Mo_combine_72 rfl ?_
  refine gj_get d_Mo_combine_73 gf_Mo_45 f2 rfl ?_
  refine gj_iload_n d_Mo_combine_76 rfl ?_
  refine gj_iald d_Mo_combine_77 f5 rfl (vp_in_nI (by omega) (by decide)) ?_
  refine gj_top (y := gr (j)) (congrArg gr (nI_clamp (by omega))) ?_
  refine gj_aload_n d_Mo_combine_78 rfl ?_
  refine gj_get d_Mo_combine_79 gf_Mo_45 f2 rfl ?_
  refine gj_iload_n d_Mo_combine_82 rfl ?_
  refine gj_iald d_Mo_combine_83 f5 rfl (vp_in_nI (by omega) (by decide)) ?_
  refine gj_top (y := gr (i)) (congrArg gr (nI_clamp (by omega))) ?_
  refine gj_iadd d_Mo_combine_84 ?_
  refine gj_ldc d_Mo_combine_85 gw_706 ?_
  refine gj_icmp_gt (tgt := 108) d_Mo_combine_87 (by decide) (fun h87 => absurd h87 (Int32.not_lt.mpr h.2.2.2.2.1)) (fun h87 => ?_)
  refine gj_aload_n d_Mo_combine_90 rfl ?_
  refine gj_get d_Mo_combine_91 gf_Mo_48 f2 rfl ?_
  refine gj_iload_n d_Mo_combine_94 rfl ?_
  refine gj_iald d_Mo_combine_95 f6 rfl (vp_in_nI (by omega) (by decide)) ?_
  refine gj_top (y := vo (j)) (congrArg vo (nI_clamp (by omega))) ?_
  refine gj_aload_n d_Mo_combine_96 rfl ?_
  refine gj_get d_Mo_combine_97 gf_Mo_48 f2 rfl ?_
  refine gj_iload_n d_Mo_combine_100 rfl ?_
  refine gj_iald d_Mo_combine_101 f6 rfl (vp_in_nI (by omega) (by decide)) ?_
  refine gj_top (y := vo (i)) (congrArg vo (nI_clamp (by omega))) ?_
  refine gj_iadd d_Mo_combine_102 ?_
  refine gj_ldc d_Mo_combine_103 gw_720 ?_
  refine gj_icmp_le (tgt := 112) d_Mo_combine_105 (by decide) (fun h105 => ?_) (fun h105 => absurd (h.2.2.2.2.2) h105)
  refine gj_kc (v := 0) d_Mo_combine_112 (by decide) ?_
  refine gj_istore_n d_Mo_combine_113 (by decide) ?_
  refine gj_aload_n d_Mo_combine_114 rfl ?_
  refine gj_iload_n d_Mo_combine_115 rfl ?_
  refine gj_if_eq (tgt := 123) d_Mo_combine_116 (by decide) (fun h116 => ?_) (fun h116 => absurd (by decide) h116)
  refine gj_kc (v := 0) d_Mo_combine_123 (by decide) ?_
  refine gj_put d_Mo_combine_124 gp_Mo_7 f2 (Nat.le_of_ble_eq_true rfl) (fun _ => rfl) (fun _ => rfl) ?_
  obtain ⟨C8, eC8⟩ : ∃ Z0, Z0 = va_up C1 (70) (.inr (5, [.int (0), .ref (71), .int (nI sg), .int (nI li), .ref (72), .int (nI nl), .ref (73), .int (nI ap), .int (nI ns), .ref (74), .ref (75), .ref (76), .ref (77), .ref (78), .ref (79), .ref (80), .ref (81), .ref (82), .ref (83), .ref (84), .int (nI dy), .ref (85), .ref (86), .ref (87), .ref (88), .ref (89), .ref (90)])) := ⟨_, rfl⟩
  refine gj_mem eC8 ?_
  have f9 : C8 (70) = .inr (5, [.int (0), .ref (71), .int (nI sg), .int (nI li), .ref (72), .int (nI nl), .ref (73), .int (nI ap), .int (nI ns), .ref (74), .ref (75), .ref (76), .ref (77), .ref (78), .ref (79), .ref (80), .ref (81), .ref (82), .ref (83), .ref (84), .int (nI dy), .ref (85), .ref (86), .ref (87), .ref (88), .ref (89), .ref (90)]) := by rw [eC8]; exact va_up_self _ _ _
  have f10 : C8 (74) = .inl (2, 20, .inl go) := by rw [eC8, va_up_ne _ _ (by omega)]; exact f3
  have f11 : C8 (75) = .inl (0, 20, .inl zo) := by rw [eC8, va_up_ne _ _ (by omega)]; exact f4
  have f12 : C8 (76) = .inl (0, 20, .inl gr) := by rw [eC8, va_up_ne _ _ (by omega)]; exact f5
  have f13 : C8 (77) = .inl (0, 20, .inl vo) := by rw [eC8, va_up_ne _ _ (by omega)]; exact f6
  have f14 : C8 (78) = .inl (0, 20, .inl se) := by rw [eC8, va_up_ne _ _ (by omega)]; exact f7
  refine gj_iload_n d_Mo_combine_127 rfl ?_
  refine gj_if_eq (tgt := 133) d_Mo_combine_128 (by decide) (fun h128 => ?_) (fun h128 => absurd (by decide) h128)
  refine gj_aload_n d_Mo_combine_133 rfl ?_
  refine gj_get d_Mo_combine_134 gf_Mo_45 f9 rfl ?_
  refine gj_iload_n d_Mo_combine_137 rfl ?_
  refine gj_aload_n d_Mo_combine_138 rfl ?_
  refine gj_get d_Mo_combine_139 gf_Mo_45 f9 rfl ?_
  refine gj_iload_n d_Mo_combine_142 rfl ?_
  refine gj_iald d_Mo_combine_143 f12 rfl (vp_in_nI (by omega) (by decide)) ?_
  refine gj_top (y := gr (j)) (congrArg gr (nI_clamp (by omega))) ?_
  refine gj_aload_n d_Mo_combine_144 rfl ?_
  refine gj_get d_Mo_combine_145 gf_Mo_45 f9 rfl ?_
  refine gj_iload_n d_Mo_combine_148 rfl ?_
  refine gj_iald d_Mo_combine_149 f12 rfl (vp_in_nI (by omega) (by decide)) ?_
  refine gj_top (y := gr (i)) (congrArg gr (nI_clamp (by omega))) ?_
  refine gj_iadd d_Mo_combine_150 ?_
  refine gj_iast d_Mo_combine_151 f12 rfl (vp_in_nI (by omega) (by decide)) ?_
  obtain ⟨C15, eC15⟩ : ∃ Z0, Z0 = va_up C8 (76) (.inl (0, 20, .inl (upd gr (j) ((gr (j)) + (gr (i)))))) := ⟨_, rfl⟩
  refine gj_mem (eC15.trans (by rw [nI_clamp (by omega)])) ?_
  have f16 : C15 (70) = .inr (5, [.int (0), .ref (71), .int (nI sg), .int (nI li), .ref (72), .int (nI nl), .ref (73), .int (nI ap), .int (nI ns), .ref (74), .ref (75), .ref (76), .ref (77), .ref (78), .ref (79), .ref (80), .ref (81), .ref (82), .ref (83), .ref (84), .int (nI dy), .ref (85), .ref (86), .ref (87), .ref (88), .ref (89), .ref (90)]) := by rw [eC15, va_up_ne _ _ (by omega)]; exact f9
  have f17 : C15 (74) = .inl (2, 20, .inl go) := by rw [eC15, va_up_ne _ _ (by omega)]; exact f10
  have f18 : C15 (75) = .inl (0, 20, .inl zo) := by rw [eC15, va_up_ne _ _ (by omega)]; exact f11
  have f19 : C15 (76) = .inl (0, 20, .inl (upd gr (j) ((gr (j)) + (gr (i))))) := by rw [eC15]; exact va_up_self _ _ _
  have f20 : C15 (77) = .inl (0, 20, .inl vo) := by rw [eC15, va_up_ne _ _ (by omega)]; exact f13
  have f21 : C15 (78) = .inl (0, 20, .inl se) := by rw [eC15, va_up_ne _ _ (by omega)]; exact f14
  refine gj_aload_n d_Mo_combine_152 rfl ?_
  refine gj_get d_Mo_combine_153 gf_Mo_48 f16 rfl ?_
  refine gj_iload_n d_Mo_combine_156 rfl ?_
  refine gj_aload_n d_Mo_combine_157 rfl ?_
  refine gj_get d_Mo_combine_158 gf_Mo_48 f16 rfl ?_
  refine gj_iload_n d_Mo_combine_161 rfl ?_
  refine gj_iald d_Mo_combine_162 f20 rfl (vp_in_nI (by omega) (by decide)) ?_
  refine gj_top (y := vo (j)) (congrArg vo (nI_clamp (by omega))) ?_
  refine gj_aload_n d_Mo_combine_163 rfl ?_
  refine gj_get d_Mo_combine_164 gf_Mo_48 f16 rfl ?_
  refine gj_iload_n d_Mo_combine_167 rfl ?_
  refine gj_iald d_Mo_combine_168 f20 rfl (vp_in_nI (by omega) (by decide)) ?_
  refine gj_top (y := vo (i)) (congrArg vo (nI_clamp (by omega))) ?_
  refine gj_iadd d_Mo_combine_169 ?_
  refine gj_iast d_Mo_combine_170 f20 rfl (vp_in_nI (by omega) (by decide)) ?_
  obtain ⟨C22, eC22⟩ : ∃ Z0, Z0 = va_up C15 (77) (.inl (0, 20, .inl (upd vo (j) ((vo (j)) + (vo (i)))))) := ⟨_, rfl⟩
  refine gj_mem (eC22.trans (by rw [nI_clamp (by omega)])) ?_
  have f23 : C22 (70) = .inr (5, [.int (0), .ref (71), .int (nI sg), .int (nI li), .ref (72), .int (nI nl), .ref (73), .int (nI ap), .int (nI ns), .ref (74), .ref (75), .ref (76), .ref (77), .ref (78), .ref (79), .ref (80), .ref (81), .ref (82), .ref (83), .ref (84), .int (nI dy), .ref (85), .ref (86), .ref (87), .ref (88), .ref (89), .ref (90)]) := by rw [eC22, va_up_ne _ _ (by omega)]; exact f16
  have f24 : C22 (74) = .inl (2, 20, .inl go) := by rw [eC22, va_up_ne _ _ (by omega)]; exact f17
  have f25 : C22 (75) = .inl (0, 20, .inl zo) := by rw [eC22, va_up_ne _ _ (by omega)]; exact f18
  have f26 : C22 (76) = .inl (0, 20, .inl (upd gr (j) ((gr (j)) + (gr (i))))) := by rw [eC22, va_up_ne _ _ (by omega)]; exact f19
  have f27 : C22 (77) = .inl (0, 20, .inl (upd vo (j) ((vo (j)) + (vo (i))))) := by rw [eC22]; exact va_up_self _ _ _
  have f28 : C22 (78) = .inl (0, 20, .inl se) := by rw [eC22, va_up_ne _ _ (by omega)]; exact f21
  refine gj_aload_n d_Mo_combine_171 rfl ?_
  refine gj_get d_Mo_combine_172 gf_Mo_38 f23 rfl ?_
  refine gj_iload_n d_Mo_combine_175 rfl ?_
  refine gj_kc (v := 1) d_Mo_combine_176 (by decide) ?_
  refine gj_zast d_Mo_combine_177 f24 rfl (vp_in_nI (by omega) (by decide)) ?_
  obtain ⟨C29, eC29⟩ : ∃ Z0, Z0 = va_up C22 (74) (.inl (2, 20, .inl (upd go (i) (vp_nar .boolean (1))))) := ⟨_, rfl⟩
  refine gj_mem (eC29.trans (by rw [nI_clamp (by omega)])) ?_
  have f30 : C29 (70) = .inr (5, [.int (0), .ref (71), .int (nI sg), .int (nI li), .ref (72), .int (nI nl), .ref (73), .int (nI ap), .int (nI ns), .ref (74), .ref (75), .ref (76), .ref (77), .ref (78), .ref (79), .ref (80), .ref (81), .ref (82), .ref (83), .ref (84), .int (nI dy), .ref (85), .ref (86), .ref (87), .ref (88), .ref (89), .ref (90)]) := by rw [eC29, va_up_ne _ _ (by omega)]; exact f23
  have f31 : C29 (74) = .inl (2, 20, .inl (upd go (i) (vp_nar .boolean (1)))) := by rw [eC29]; exact va_up_self _ _ _
  have f32 : C29 (75) = .inl (0, 20, .inl zo) := by rw [eC29, va_up_ne _ _ (by omega)]; exact f25
  have f33 : C29 (76) = .inl (0, 20, .inl (upd gr (j) ((gr (j)) + (gr (i))))) := by rw [eC29, va_up_ne _ _ (by omega)]; exact f26
  have f34 : C29 (77) = .inl (0, 20, .inl (upd vo (j) ((vo (j)) + (vo (i))))) := by rw [eC29, va_up_ne _ _ (by omega)]; exact f27
  have f35 : C29 (78) = .inl (0, 20, .inl se) := by rw [eC29, va_up_ne _ _ (by omega)]; exact f28
  refine gj_aload_n d_Mo_combine_178 rfl ?_
  refine gj_get d_Mo_combine_179 gf_Mo_45 f30 rfl ?_
  refine gj_iload_n d_Mo_combine_182 rfl ?_
  refine gj_iald d_Mo_combine_183 f33 rfl (vp_in_nI (by omega) (by decide)) ?_
  refine gj_top (y := (upd gr (j) ((gr (j)) + (gr (i)))) (j)) (congrArg (upd gr (j) ((gr (j)) + (gr (i)))) (nI_clamp (by omega))) ?_
  refine gj_top (y := gr j + gr i) (upd_self _ _ _) ?_
  refine gj_iret rfl (Nat.zero_le _) (Nat.zero_le _) d_Mo_combine_184 ?_
  exact ⟨rfl, rfl, f30, f31, f33, f34, fun y c0 c1 c2 c3 => by show C29 y = C y; rw [eC29, va_up_ne _ _ (by assumption), eC22, va_up_ne _ _ (by assumption), eC15, va_up_ne _ _ (by assumption), eC8, va_up_ne _ _ (by assumption), eC1, va_up_ne _ _ (by assumption)]⟩
