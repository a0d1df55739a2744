/-! the constructors -/
set_option maxHeartbeats 2000000 in
theorem c_Tx_init {d K N n : Nat} {C : Nat → va_E} (hx : C (n) = .inr (1, [.null, .null, .int (0), .int (0)])) (hK : 2 ≤ K) (hN : 604 ≤ N) : gj_G md_Tx_init (d) K N 0 0 0 [(0, .ref (n))] [] n C (fun r => r.1 = .inl none ∧ r.2.1 = n + 2 ∧ r.2.2 n = .inr (1, [.ref (n + 1), .ref (n + 2), .int 0, .int 0]) ∧ r.2.2 (n + 1) = .inl (0, 600, .inl (fun _ => 0)) ∧ r.2.2 (n + 2) = .inl (0, 4, .inl (fun _ => 0)) ∧ ∀ y, y < n → r.2.2 y = C y) := by
  refine gj_aload_n d_Tx_init_0 rfl ?_
  refine gj_objInit d_Tx_init_1 gw_48 gw_41 gw_42 (Nat.le_of_ble_eq_true rfl) ?_
  refine gj_aload_n d_Tx_init_4 rfl ?_
  refine gj_ks (v := 600) d_Tx_init_5 (by decide) ?_
  refine gj_newI (kA := 0) (len := 600) d_Tx_init_8 gw_64 rfl (by decide) (by decide) (by omega) (by omega) (by omega) ?_
  obtain ⟨C1, eC1⟩ : ∃ Z0, Z0 = va_up C (n + 1) (.inl (0, 600, .inl (fun _ => 0))) := ⟨_, rfl⟩
  refine gj_mem eC1 ?_
  have f2 : C1 (n) = .inr (1, [.null, .null, .int (0), .int (0)]) := by rw [eC1, va_up_ne _ _ (by omega)]; exact hx
  have f3 : C1 (n + 1) = .inl (0, 600, .inl (fun _ => 0)) := by rw [eC1]; exact va_up_self _ _ _
  refine gj_putF d_Tx_init_10 gp_Tx_9 rfl f2 (Nat.le_of_ble_eq_true rfl) (fun _ => rfl) (fun _ => rfl) ?_
  obtain ⟨C4, eC4⟩ : ∃ Z0, Z0 = va_up C1 (n) (.inr (1, [.ref (n + 1), .null, .int (0), .int (0)])) := ⟨_, rfl⟩
  refine gj_mem eC4 ?_
  have f5 : C4 (n) = .inr (1, [.ref (n + 1), .null, .int (0), .int (0)]) := by rw [eC4]; exact va_up_self _ _ _
  have f6 : C4 (n + 1) = .inl (0, 600, .inl (fun _ => 0)) := by rw [eC4, va_up_ne _ _ (by omega)]; exact f3
  refine gj_aload_n d_Tx_init_13 rfl ?_
  refine gj_kc (v := 4) d_Tx_init_14 (by decide) ?_
  refine gj_newI (kA := 0) (len := 4) d_Tx_init_15 gw_64 rfl (by decide) (by decide) (by omega) (by omega) (by omega) ?_
  obtain ⟨C7, eC7⟩ : ∃ Z0, Z0 = va_up C4 (n + 2) (.inl (0, 4, .inl (fun _ => 0))) := ⟨_, rfl⟩
  refine gj_mem eC7 ?_
  have f8 : C7 (n) = .inr (1, [.ref (n + 1), .null, .int (0), .int (0)]) := by rw [eC7, va_up_ne _ _ (by omega)]; exact f5
  have f9 : C7 (n + 1) = .inl (0, 600, .inl (fun _ => 0)) := by rw [eC7, va_up_ne _ _ (by omega)]; exact f6
  have f10 : C7 (n + 2) = .inl (0, 4, .inl (fun _ => 0)) := by rw [eC7]; exact va_up_self _ _ _
  refine gj_putF d_Tx_init_17 gp_Tx_15 rfl f8 (Nat.le_of_ble_eq_true rfl) (fun _ => rfl) (fun _ => rfl) ?_
  obtain ⟨C11, eC11⟩ : ∃ Z0, Z0 = va_up C7 (n) (.inr (1, [.ref (n + 1), .ref (n + 2), .int (0), .int (0)])) := ⟨_, rfl⟩
  refine gj_mem eC11 ?_
  have f12 : C11 (n) = .inr (1, [.ref (n + 1), .ref (n + 2), .int (0), .int (0)]) := by rw [eC11]; exact va_up_self _ _ _
  have f13 : C11 (n + 1) = .inl (0, 600, .inl (fun _ => 0)) := by rw [eC11, va_up_ne _ _ (by omega)]; exact f9
  have f14 : C11 (n + 2) = .inl (0, 4, .inl (fun _ => 0)) := by rw [eC11, va_up_ne _ _ (by omega)]; exact f10
  refine gj_aload_n d_Tx_init_20 rfl ?_
  refine gj_kc (v := 0) d_Tx_init_21 (by decide) ?_
  refine gj_put d_Tx_init_22 gp_Tx_18 f12 (Nat.le_of_ble_eq_true rfl) (fun _ => rfl) (fun _ => rfl) ?_
  obtain ⟨C15, eC15⟩ : ∃ Z0, Z0 = va_up C11 (n) (.inr (1, [.ref (n + 1), .ref (n + 2), .int (0), .int (0)])) := ⟨_, rfl⟩
  refine gj_mem eC15 ?_
  have f16 : C15 (n) = .inr (1, [.ref (n + 1), .ref (n + 2), .int (0), .int (0)]) := by rw [eC15]; exact va_up_self _ _ _
  have f17 : C15 (n + 1) = .inl (0, 600, .inl (fun _ => 0)) := by rw [eC15, va_up_ne _ _ (by omega)]; exact f13
  have f18 : C15 (n + 2) = .inl (0, 4, .inl (fun _ => 0)) := by rw [eC15, va_up_ne _ _ (by omega)]; exact f14
  refine gj_aload_n d_Tx_init_25 rfl ?_
  refine gj_kc (v := 0) d_Tx_init_26 (by decide) ?_
  refine gj_put d_Tx_init_27 gp_Tx_22 f16 (Nat.le_of_ble_eq_true rfl) (fun _ => rfl) (fun _ => rfl) ?_
  obtain ⟨C19, eC19⟩ : ∃ Z0, Z0 = va_up C15 (n) (.inr (1, [.ref (n + 1), .ref (n + 2), .int (0), .int (0)])) := ⟨_, rfl⟩
  refine gj_mem eC19 ?_
  have f20 : C19 (n) = .inr (1, [.ref (n + 1), .ref (n + 2), .int (0), .int (0)]) := by rw [eC19]; exact va_up_self _ _ _
  have f21 : C19 (n + 1) = .inl (0, 600, .inl (fun _ => 0)) := by rw [eC19, va_up_ne _ _ (by omega)]; exact f17
  have f22 : C19 (n + 2) = .inl (0, 4, .inl (fun _ => 0)) := by rw [eC19, va_up_ne _ _ (by omega)]; exact f18
  refine gj_vret rfl (by omega) (by omega) d_Tx_init_30 ?_
  exact ⟨rfl, rfl, f20, f21, f22, fun y hy => by show C19 y = C y; rw [eC19, va_up_ne _ _ (by omega)]; rw [eC15, va_up_ne _ _ (by omega)]; rw [eC11, va_up_ne _ _ (by omega)]; rw [eC7, va_up_ne _ _ (by omega)]; rw [eC4, va_up_ne _ _ (by omega)]; rw [eC1, va_up_ne _ _ (by omega)]⟩
def pr_T0 : pr_T := (fun _ => 0, fun _ => 0, fun _ => 0, fun _ => 0, pr_clr (fun _ => 0) 10, pr_clr (fun _ => 0) 10, pr_clr (fun _ => 0) 10, pr_clr (fun _ => 0) 10, 0)
set_option maxHeartbeats 2000000 in
theorem c_Ra_init {d K N n : Nat} {C : Nat → va_E} (hx : C (n) = .inr (2, [.null, .null, .null, .null, .null, .null, .null, .null, .int (0), .int (0)])) (hK : 8 ≤ K) (hN : 280 ≤ N) : gj_G md_Ra_init (d + 1) K N 0 0 0 [(0, .ref (n))] [] n C (fun r => r.1 = .inl none ∧ r.2.1 = n + 8 ∧ pr_M r.2.2 n pr_T0 0 ∧ ∀ y, y < n → r.2.2 y = C y) := by
  refine gj_aload_n d_Ra_init_0 rfl ?_
  refine gj_objInit d_Ra_init_1 gw_70 gw_41 gw_42 (Nat.le_of_ble_eq_true rfl) ?_
  refine gj_aload_n d_Ra_init_4 rfl ?_
  refine gj_kb (v := 60) d_Ra_init_5 (by decide) ?_
  refine gj_newI (kA := 0) (len := 60) d_Ra_init_7 gw_64 rfl (by decide) (by decide) (by omega) (by omega) (by omega) ?_
  obtain ⟨C1, eC1⟩ : ∃ Z0, Z0 = va_up C (n + 1) (.inl (0, 60, .inl (fun _ => 0))) := ⟨_, rfl⟩
  refine gj_mem eC1 ?_
  have f2 : C1 (n) = .inr (2, [.null, .null, .null, .null, .null, .null, .null, .null, .int (0), .int (0)]) := by rw [eC1, va_up_ne _ _ (by omega)]; exact hx
  have f3 : C1 (n + 1) = .inl (0, 60, .inl (fun _ => 0)) := by rw [eC1]; exact va_up_self _ _ _
  refine gj_putF d_Ra_init_9 gp_Ra_9 rfl f2 (Nat.le_of_ble_eq_true rfl) (fun _ => rfl) (fun _ => rfl) ?_
  obtain ⟨C4, eC4⟩ : ∃ Z0, Z0 = va_up C1 (n) (.inr (2, [.ref (n + 1), .null, .null, .null, .null, .null, .null, .null, .int (0), .int (0)])) := ⟨_, rfl⟩
  refine gj_mem eC4 ?_
  have f5 : C4 (n) = .inr (2, [.ref (n + 1), .null, .null, .null, .null, .null, .null, .null, .int (0), .int (0)]) := by rw [eC4]; exact va_up_self _ _ _
  have f6 : C4 (n + 1) = .inl (0, 60, .inl (fun _ => 0)) := by rw [eC4, va_up_ne _ _ (by omega)]; exact f3
  refine gj_aload_n d_Ra_init_12 rfl ?_
  refine gj_kb (v := 60) d_Ra_init_13 (by decide) ?_
  refine gj_newI (kA := 0) (len := 60) d_Ra_init_15 gw_64 rfl (by decide) (by decide) (by omega) (by omega) (by omega) ?_
  obtain ⟨C7, eC7⟩ : ∃ Z0, Z0 = va_up C4 (n + 2) (.inl (0, 60, .inl (fun _ => 0))) := ⟨_, rfl⟩
  refine gj_mem eC7 ?_
  have f8 : C7 (n) = .inr (2, [.ref (n + 1), .null, .null, .null, .null, .null, .null, .null, .int (0), .int (0)]) := by rw [eC7, va_up_ne _ _ (by omega)]; exact f5
  have f9 : C7 (n + 1) = .inl (0, 60, .inl (fun _ => 0)) := by rw [eC7, va_up_ne _ _ (by omega)]; exact f6
  have f10 : C7 (n + 2) = .inl (0, 60, .inl (fun _ => 0)) := by rw [eC7]; exact va_up_self _ _ _
  refine gj_putF d_Ra_init_17 gp_Ra_15 rfl f8 (Nat.le_of_ble_eq_true rfl) (fun _ => rfl) (fun _ => rfl) ?_
  obtain ⟨C11, eC11⟩ : ∃ Z0, Z0 = va_up C7 (n) (.inr (2, [.ref (n + 1), .ref (n + 2), .null, .null, .null, .null, .null, .null, .int (0), .int (0)])) := ⟨_, rfl⟩
  refine gj_mem eC11 ?_
  have f12 : C11 (n) = .inr (2, [.ref (n + 1), .ref (n + 2), .null, .null, .null, .null, .null, .null, .int (0), .int (0)]) := by rw [eC11]; exact va_up_self _ _ _
  have f13 : C11 (n + 1) = .inl (0, 60, .inl (fun _ => 0)) := by rw [eC11, va_up_ne _ _ (by omega)]; exact f9
  have f14 : C11 (n + 2) = .inl (0, 60, .inl (fun _ => 0)) := by rw [eC11, va_up_ne _ _ (by omega)]; exact f10
  refine gj_aload_n d_Ra_init_20 rfl ?_
  refine gj_kb (v := 60) d_Ra_init_21 (by decide) ?_
  refine gj_newI (kA := 0) (len := 60) d_Ra_init_23 gw_64 rfl (by decide) (by decide) (by omega) (by omega) (by omega) ?_
  obtain ⟨C15, eC15⟩ : ∃ Z0, Z0 = va_up C11 (n + 3) (.inl (0, 60, .inl (fun _ => 0))) := ⟨_, rfl⟩
  refine gj_mem eC15 ?_
  have f16 : C15 (n) = .inr (2, [.ref (n + 1), .ref (n + 2), .null, .null, .null, .null, .null, .null, .int (0), .int (0)]) := by rw [eC15, va_up_ne _ _ (by omega)]; exact f12
  have f17 : C15 (n + 1) = .inl (0, 60, .inl (fun _ => 0)) := by rw [eC15, va_up_ne _ _ (by omega)]; exact f13
  have f18 : C15 (n + 2) = .inl (0, 60, .inl (fun _ => 0)) := by rw [eC15, va_up_ne _ _ (by omega)]; exact f14
  have f19 : C15 (n + 3) = .inl (0, 60, .inl (fun _ => 0)) := by rw [eC15]; exact va_up_self _ _ _
  refine gj_putF d_Ra_init_25 gp_Ra_18 rfl f16 (Nat.le_of_ble_eq_true rfl) (fun _ => rfl) (fun _ => rfl) ?_
  obtain ⟨C20, eC20⟩ : ∃ Z0, Z0 = va_up C15 (n) (.inr (2, [.ref (n + 1), .ref (n + 2), .ref (n + 3), .null, .null, .null, .null, .null, .int (0), .int (0)])) := ⟨_, rfl⟩
  refine gj_mem eC20 ?_
  have f21 : C20 (n) = .inr (2, [.ref (n + 1), .ref (n + 2), .ref (n + 3), .null, .null, .null, .null, .null, .int (0), .int (0)]) := by rw [eC20]; exact va_up_self _ _ _
  have f22 : C20 (n + 1) = .inl (0, 60, .inl (fun _ => 0)) := by rw [eC20, va_up_ne _ _ (by omega)]; exact f17
  have f23 : C20 (n + 2) = .inl (0, 60, .inl (fun _ => 0)) := by rw [eC20, va_up_ne _ _ (by omega)]; exact f18
  have f24 : C20 (n + 3) = .inl (0, 60, .inl (fun _ => 0)) := by rw [eC20, va_up_ne _ _ (by omega)]; exact f19
  refine gj_aload_n d_Ra_init_28 rfl ?_
  refine gj_kb (v := 60) d_Ra_init_29 (by decide) ?_
  refine gj_newI (kA := 0) (len := 60) d_Ra_init_31 gw_64 rfl (by decide) (by decide) (by omega) (by omega) (by omega) ?_
  obtain ⟨C25, eC25⟩ : ∃ Z0, Z0 = va_up C20 (n + 4) (.inl (0, 60, .inl (fun _ => 0))) := ⟨_, rfl⟩
  refine gj_mem eC25 ?_
  have f26 : C25 (n) = .inr (2, [.ref (n + 1), .ref (n + 2), .ref (n + 3), .null, .null, .null, .null, .null, .int (0), .int (0)]) := by rw [eC25, va_up_ne _ _ (by omega)]; exact f21
  have f27 : C25 (n + 1) = .inl (0, 60, .inl (fun _ => 0)) := by rw [eC25, va_up_ne _ _ (by omega)]; exact f22
  have f28 : C25 (n + 2) = .inl (0, 60, .inl (fun _ => 0)) := by rw [eC25, va_up_ne _ _ (by omega)]; exact f23
  have f29 : C25 (n + 3) = .inl (0, 60, .inl (fun _ => 0)) := by rw [eC25, va_up_ne _ _ (by omega)]; exact f24
  have f30 : C25 (n + 4) = .inl (0, 60, .inl (fun _ => 0)) := by rw [eC25]; exact va_up_self _ _ _
  refine gj_putF d_Ra_init_33 gp_Ra_21 rfl f26 (Nat.le_of_ble_eq_true rfl) (fun _ => rfl) (fun _ => rfl) ?_
  obtain ⟨C31, eC31⟩ : ∃ Z0, Z0 = va_up C25 (n) (.inr (2, [.ref (n + 1), .ref (n + 2), .ref (n + 3), .ref (n + 4), .null, .null, .null, .null, .int (0), .int (0)])) := ⟨_, rfl⟩
  refine gj_mem eC31 ?_
  have f32 : C31 (n) = .inr (2, [.ref (n + 1), .ref (n + 2), .ref (n + 3), .ref (n + 4), .null, .null, .null, .null, .int (0), .int (0)]) := by rw [eC31]; exact va_up_self _ _ _
  have f33 : C31 (n + 1) = .inl (0, 60, .inl (fun _ => 0)) := by rw [eC31, va_up_ne _ _ (by omega)]; exact f27
  have f34 : C31 (n + 2) = .inl (0, 60, .inl (fun _ => 0)) := by rw [eC31, va_up_ne _ _ (by omega)]; exact f28
  have f35 : C31 (n + 3) = .inl (0, 60, .inl (fun _ => 0)) := by rw [eC31, va_up_ne _ _ (by omega)]; exact f29
  have f36 : C31 (n + 4) = .inl (0, 60, .inl (fun _ => 0)) := by rw [eC31, va_up_ne _ _ (by omega)]; exact f30
  refine gj_aload_n d_Ra_init_36 rfl ?_
  refine gj_kb (v := 10) d_Ra_init_37 (by decide) ?_
  refine gj_newI (kA := 0) (len := 10) d_Ra_init_39 gw_64 rfl (by decide) (by decide) (by omega) (by omega) (by omega) ?_
  obtain ⟨C37, eC37⟩ : ∃ Z0, Z0 = va_up C31 (n + 5) (.inl (0, 10, .inl (fun _ => 0))) := ⟨_, rfl⟩
  refine gj_mem eC37 ?_
  have f38 : C37 (n) = .inr (2, [.ref (n + 1), .ref (n + 2), .ref (n + 3), .ref (n + 4), .null, .null, .null, .null, .int (0), .int (0)]) := by rw [eC37, va_up_ne _ _ (by omega)]; exact f32
  have f39 : C37 (n + 1) = .inl (0, 60, .inl (fun _ => 0)) := by rw [eC37, va_up_ne _ _ (by omega)]; exact f33
  have f40 : C37 (n + 2) = .inl (0, 60, .inl (fun _ => 0)) := by rw [eC37, va_up_ne _ _ (by omega)]; exact f34
  have f41 : C37 (n + 3) = .inl (0, 60, .inl (fun _ => 0)) := by rw [eC37, va_up_ne _ _ (by omega)]; exact f35
  have f42 : C37 (n + 4) = .inl (0, 60, .inl (fun _ => 0)) := by rw [eC37, va_up_ne _ _ (by omega)]; exact f36
  have f43 : C37 (n + 5) = .inl (0, 10, .inl (fun _ => 0)) := by rw [eC37]; exact va_up_self _ _ _
  refine gj_putF d_Ra_init_41 gp_Ra_24 rfl f38 (Nat.le_of_ble_eq_true rfl) (fun _ => rfl) (fun _ => rfl) ?_
  obtain ⟨C44, eC44⟩ : ∃ Z0, Z0 = va_up C37 (n) (.inr (2, [.ref (n + 1), .ref (n + 2), .ref (n + 3), .ref (n + 4), .ref (n + 5), .null, .null, .null, .int (0), .int (0)])) := ⟨_, rfl⟩
  refine gj_mem eC44 ?_
  have f45 : C44 (n) = .inr (2, [.ref (n + 1), .ref (n + 2), .ref (n + 3), .ref (n + 4), .ref (n + 5), .null, .null, .null, .int (0), .int (0)]) := by rw [eC44]; exact va_up_self _ _ _
  have f46 : C44 (n + 1) = .inl (0, 60, .inl (fun _ => 0)) := by rw [eC44, va_up_ne _ _ (by omega)]; exact f39
  have f47 : C44 (n + 2) = .inl (0, 60, .inl (fun _ => 0)) := by rw [eC44, va_up_ne _ _ (by omega)]; exact f40
  have f48 : C44 (n + 3) = .inl (0, 60, .inl (fun _ => 0)) := by rw [eC44, va_up_ne _ _ (by omega)]; exact f41
  have f49 : C44 (n + 4) = .inl (0, 60, .inl (fun _ => 0)) := by rw [eC44, va_up_ne _ _ (by omega)]; exact f42
  have f50 : C44 (n + 5) = .inl (0, 10, .inl (fun _ => 0)) := by rw [eC44, va_up_ne _ _ (by omega)]; exact f43
  refine gj_aload_n d_Ra_init_44 rfl ?_
  refine gj_kb (v := 10) d_Ra_init_45 (by decide) ?_
  refine gj_newI (kA := 0) (len := 10) d_Ra_init_47 gw_64 rfl (by decide) (by decide) (by omega) (by omega) (by omega) ?_
  obtain ⟨C51, eC51⟩ : ∃ Z0, Z0 = va_up C44 (n + 6) (.inl (0, 10, .inl (fun _ => 0))) := ⟨_, rfl⟩
  refine gj_mem eC51 ?_
  have f52 : C51 (n) = .inr (2, [.ref (n + 1), .ref (n + 2), .ref (n + 3), .ref (n + 4), .ref (n + 5), .null, .null, .null, .int (0), .int (0)]) := by rw [eC51, va_up_ne _ _ (by omega)]; exact f45
  have f53 : C51 (n + 1) = .inl (0, 60, .inl (fun _ => 0)) := by rw [eC51, va_up_ne _ _ (by omega)]; exact f46
  have f54 : C51 (n + 2) = .inl (0, 60, .inl (fun _ => 0)) := by rw [eC51, va_up_ne _ _ (by omega)]; exact f47
  have f55 : C51 (n + 3) = .inl (0, 60, .inl (fun _ => 0)) := by rw [eC51, va_up_ne _ _ (by omega)]; exact f48
  have f56 : C51 (n + 4) = .inl (0, 60, .inl (fun _ => 0)) := by rw [eC51, va_up_ne _ _ (by omega)]; exact f49
  have f57 : C51 (n + 5) = .inl (0, 10, .inl (fun _ => 0)) := by rw [eC51, va_up_ne _ _ (by omega)]; exact f50
  have f58 : C51 (n + 6) = .inl (0, 10, .inl (fun _ => 0)) := by rw [eC51]; exact va_up_self _ _ _
  refine gj_putF d_Ra_init_49 gp_Ra_27 rfl f52 (Nat.le_of_ble_eq_true rfl) (fun _ => rfl) (fun _ => rfl) ?_
  obtain ⟨C59, eC59⟩ : ∃ Z0, Z0 = va_up C51 (n) (.inr (2, [.ref (n + 1), .ref (n + 2), .ref (n + 3), .ref (n + 4), .ref (n + 5), .ref (n + 6), .null, .null, .int (0), .int (0)])) := ⟨_, rfl⟩
  refine gj_mem eC59 ?_
  have f60 : C59 (n) = .inr (2, [.ref (n + 1), .ref (n + 2), .ref (n + 3), .ref (n + 4), .ref (n + 5), .ref (n + 6), .null, .null, .int (0), .int (0)]) := by rw [eC59]; exact va_up_self _ _ _
  have f61 : C59 (n + 1) = .inl (0, 60, .inl (fun _ => 0)) := by rw [eC59, va_up_ne _ _ (by omega)]; exact f53
  have f62 : C59 (n + 2) = .inl (0, 60, .inl (fun _ => 0)) := by rw [eC59, va_up_ne _ _ (by omega)]; exact f54
  have f63 : C59 (n + 3) = .inl (0, 60, .inl (fun _ => 0)) := by rw [eC59, va_up_ne _ _ (by omega)]; exact f55
  have f64 : C59 (n + 4) = .inl (0, 60, .inl (fun _ => 0)) := by rw [eC59, va_up_ne _ _ (by omega)]; exact f56
  have f65 : C59 (n + 5) = .inl (0, 10, .inl (fun _ => 0)) := by rw [eC59, va_up_ne _ _ (by omega)]; exact f57
  have f66 : C59 (n + 6) = .inl (0, 10, .inl (fun _ => 0)) := by rw [eC59, va_up_ne _ _ (by omega)]; exact f58
  refine gj_aload_n d_Ra_init_52 rfl ?_
  refine gj_kb (v := 10) d_Ra_init_53 (by decide) ?_
  refine gj_newI (kA := 0) (len := 10) d_Ra_init_55 gw_64 rfl (by decide) (by decide) (by omega) (by omega) (by omega) ?_
  obtain ⟨C67, eC67⟩ : ∃ Z0, Z0 = va_up C59 (n + 7) (.inl (0, 10, .inl (fun _ => 0))) := ⟨_, rfl⟩
  refine gj_mem eC67 ?_
  have f68 : C67 (n) = .inr (2, [.ref (n + 1), .ref (n + 2), .ref (n + 3), .ref (n + 4), .ref (n + 5), .ref (n + 6), .null, .null, .int (0), .int (0)]) := by rw [eC67, va_up_ne _ _ (by omega)]; exact f60
  have f69 : C67 (n + 1) = .inl (0, 60, .inl (fun _ => 0)) := by rw [eC67, va_up_ne _ _ (by omega)]; exact f61
  have f70 : C67 (n + 2) = .inl (0, 60, .inl (fun _ => 0)) := by rw [eC67, va_up_ne _ _ (by omega)]; exact f62
  have f71 : C67 (n + 3) = .inl (0, 60, .inl (fun _ => 0)) := by rw [eC67, va_up_ne _ _ (by omega)]; exact f63
  have f72 : C67 (n + 4) = .inl (0, 60, .inl (fun _ => 0)) := by rw [eC67, va_up_ne _ _ (by omega)]; exact f64
  have f73 : C67 (n + 5) = .inl (0, 10, .inl (fun _ => 0)) := by rw [eC67, va_up_ne _ _ (by omega)]; exact f65
  have f74 : C67 (n + 6) = .inl (0, 10, .inl (fun _ => 0)) := by rw [eC67, va_up_ne _ _ (by omega)]; exact f66
  have f75 : C67 (n + 7) = .inl (0, 10, .inl (fun _ => 0)) := by rw [eC67]; exact va_up_self _ _ _
  refine gj_putF d_Ra_init_57 gp_Ra_30 rfl f68 (Nat.le_of_ble_eq_true rfl) (fun _ => rfl) (fun _ => rfl) ?_
  obtain ⟨C76, eC76⟩ : ∃ Z0, Z0 = va_up C67 (n) (.inr (2, [.ref (n + 1), .ref (n + 2), .ref (n + 3), .ref (n + 4), .ref (n + 5), .ref (n + 6), .ref (n + 7), .null, .int (0), .int (0)])) := ⟨_, rfl⟩
  refine gj_mem eC76 ?_
  have f77 : C76 (n) = .inr (2, [.ref (n + 1), .ref (n + 2), .ref (n + 3), .ref (n + 4), .ref (n + 5), .ref (n + 6), .ref (n + 7), .null, .int (0), .int (0)]) := by rw [eC76]; exact va_up_self _ _ _
  have f78 : C76 (n + 1) = .inl (0, 60, .inl (fun _ => 0)) := by rw [eC76, va_up_ne _ _ (by omega)]; exact f69
  have f79 : C76 (n + 2) = .inl (0, 60, .inl (fun _ => 0)) := by rw [eC76, va_up_ne _ _ (by omega)]; exact f70
  have f80 : C76 (n + 3) = .inl (0, 60, .inl (fun _ => 0)) := by rw [eC76, va_up_ne _ _ (by omega)]; exact f71
  have f81 : C76 (n + 4) = .inl (0, 60, .inl (fun _ => 0)) := by rw [eC76, va_up_ne _ _ (by omega)]; exact f72
  have f82 : C76 (n + 5) = .inl (0, 10, .inl (fun _ => 0)) := by rw [eC76, va_up_ne _ _ (by omega)]; exact f73
  have f83 : C76 (n + 6) = .inl (0, 10, .inl (fun _ => 0)) := by rw [eC76, va_up_ne _ _ (by omega)]; exact f74
  have f84 : C76 (n + 7) = .inl (0, 10, .inl (fun _ => 0)) := by rw [eC76, va_up_ne _ _ (by omega)]; exact f75
  refine gj_aload_n d_Ra_init_60 rfl ?_
  refine gj_kb (v := 10) d_Ra_init_61 (by decide) ?_
  refine gj_newI (kA := 0) (len := 10) d_Ra_init_63 gw_64 rfl (by decide) (by decide) (by omega) (by omega) (by omega) ?_
  obtain ⟨C85, eC85⟩ : ∃ Z0, Z0 = va_up C76 (n + 8) (.inl (0, 10, .inl (fun _ => 0))) := ⟨_, rfl⟩
  refine gj_mem eC85 ?_
  have f86 : C85 (n) = .inr (2, [.ref (n + 1), .ref (n + 2), .ref (n + 3), .ref (n + 4), .ref (n + 5), .ref (n + 6), .ref (n + 7), .null, .int (0), .int (0)]) := by rw [eC85, va_up_ne _ _ (by omega)]; exact f77
  have f87 : C85 (n + 1) = .inl (0, 60, .inl (fun _ => 0)) := by rw [eC85, va_up_ne _ _ (by omega)]; exact f78
  have f88 : C85 (n + 2) = .inl (0, 60, .inl (fun _ => 0)) := by rw [eC85, va_up_ne _ _ (by omega)]; exact f79
  have f89 : C85 (n + 3) = .inl (0, 60, .inl (fun _ => 0)) := by rw [eC85, va_up_ne _ _ (by omega)]; exact f80
  have f90 : C85 (n + 4) = .inl (0, 60, .inl (fun _ => 0)) := by rw [eC85, va_up_ne _ _ (by omega)]; exact f81
  have f91 : C85 (n + 5) = .inl (0, 10, .inl (fun _ => 0)) := by rw [eC85, va_up_ne _ _ (by omega)]; exact f82
  have f92 : C85 (n + 6) = .inl (0, 10, .inl (fun _ => 0)) := by rw [eC85, va_up_ne _ _ (by omega)]; exact f83
  have f93 : C85 (n + 7) = .inl (0, 10, .inl (fun _ => 0)) := by rw [eC85, va_up_ne _ _ (by omega)]; exact f84
  have f94 : C85 (n + 8) = .inl (0, 10, .inl (fun _ => 0)) := by rw [eC85]; exact va_up_self _ _ _
  refine gj_putF d_Ra_init_65 gp_Ra_33 rfl f86 (Nat.le_of_ble_eq_true rfl) (fun _ => rfl) (fun _ => rfl) ?_
  obtain ⟨C95, eC95⟩ : ∃ Z0, Z0 = va_up C85 (n) (.inr (2, [.ref (n + 1), .ref (n + 2), .ref (n + 3), .ref (n + 4), .ref (n + 5), .ref (n + 6), .ref (n + 7), .ref (n + 8), .int (0), .int (0)])) := ⟨_, rfl⟩
  refine gj_mem eC95 ?_
  have f96 : C95 (n) = .inr (2, [.ref (n + 1), .ref (n + 2), .ref (n + 3), .ref (n + 4), .ref (n + 5), .ref (n + 6), .ref (n + 7), .ref (n + 8), .int (0), .int (0)]) := by rw [eC95]; exact va_up_self _ _ _
  have f97 : C95 (n + 1) = .inl (0, 60, .inl (fun _ => 0)) := by rw [eC95, va_up_ne _ _ (by omega)]; exact f87
  have f98 : C95 (n + 2) = .inl (0, 60, .inl (fun _ => 0)) := by rw [eC95, va_up_ne _ _ (by omega)]; exact f88
  have f99 : C95 (n + 3) = .inl (0, 60, .inl (fun _ => 0)) := by rw [eC95, va_up_ne _ _ (by omega)]; exact f89
  have f100 : C95 (n + 4) = .inl (0, 60, .inl (fun _ => 0)) := by rw [eC95, va_up_ne _ _ (by omega)]; exact f90
  have f101 : C95 (n + 5) = .inl (0, 10, .inl (fun _ => 0)) := by rw [eC95, va_up_ne _ _ (by omega)]; exact f91
  have f102 : C95 (n + 6) = .inl (0, 10, .inl (fun _ => 0)) := by rw [eC95, va_up_ne _ _ (by omega)]; exact f92
  have f103 : C95 (n + 7) = .inl (0, 10, .inl (fun _ => 0)) := by rw [eC95, va_up_ne _ _ (by omega)]; exact f93
  have f104 : C95 (n + 8) = .inl (0, 10, .inl (fun _ => 0)) := by rw [eC95, va_up_ne _ _ (by omega)]; exact f94
  refine gj_aload_n d_Ra_init_68 rfl ?_
  refine gj_callV (as := []) (rest := []) (K1 := 0) (N1 := 0) d_Ra_init_69 mo_Ra_clear gw_71 gw_72 gw_73 f96 rfl pl_Ra_clear (Nat.le_of_ble_eq_true rfl) (Nat.le_of_ble_eq_true rfl) (by omega) (by omega) (c_Ra_clear f96 f101 f102 f103 f104) (fun E n' C' _ h => by obtain ⟨hv, -⟩ := h; exact nomatch hv) (fun v105 n105 C105 _ h105 => ?_)
  obtain ⟨hv105, hn105, u105_0, u105_1, u105_2, u105_3, u105_4, hr105⟩ := h105
  dsimp only [gj_iv, gj_vv, gj_lv2] at hv105 hn105 hr105 u105_0 u105_1 u105_2 u105_3 u105_4
  cases hv105; cases hn105
  have f106 : C105 (n + 1) = .inl (0, 60, .inl (fun _ => 0)) := (hr105 _ (by omega) (by omega) (by omega) (by omega) (by omega)).trans f97
  have f107 : C105 (n + 2) = .inl (0, 60, .inl (fun _ => 0)) := (hr105 _ (by omega) (by omega) (by omega) (by omega) (by omega)).trans f98
  have f108 : C105 (n + 3) = .inl (0, 60, .inl (fun _ => 0)) := (hr105 _ (by omega) (by omega) (by omega) (by omega) (by omega)).trans f99
  have f109 : C105 (n + 4) = .inl (0, 60, .inl (fun _ => 0)) := (hr105 _ (by omega) (by omega) (by omega) (by omega) (by omega)).trans f100
  refine gj_vret rfl (by omega) (by omega) d_Ra_init_72 ?_
  exact ⟨rfl, rfl, ⟨u105_0, f106, f107, f108, f109, u105_1, u105_2, u105_3, u105_4⟩, fun y hy => by show C105 y = C y; rw [hr105 y (by omega) (by omega) (by omega) (by omega) (by omega)]; rw [eC95, va_up_ne _ _ (by omega)]; rw [eC85, va_up_ne _ _ (by omega)]; rw [eC76, va_up_ne _ _ (by omega)]; rw [eC67, va_up_ne _ _ (by omega)]; rw [eC59, va_up_ne _ _ (by omega)]; rw [eC51, va_up_ne _ _ (by omega)]; rw [eC44, va_up_ne _ _ (by omega)]; rw [eC37, va_up_ne _ _ (by omega)]; rw [eC31, va_up_ne _ _ (by omega)]; rw [eC25, va_up_ne _ _ (by omega)]; rw [eC20, va_up_ne _ _ (by omega)]; rw [eC15, va_up_ne _ _ (by omega)]; rw [eC11, va_up_ne _ _ (by omega)]; rw [eC7, va_up_ne _ _ (by omega)]; rw [eC4, va_up_ne _ _ (by omega)]; rw [eC1, va_up_ne _ _ (by omega)]⟩
set_option maxHeartbeats 2000000 in
theorem c_Ro_init {d K N n L : Nat} {C : Nat → va_E} (hx : C (n) = .inr (3, [.null, .null, .null, .int (0)])) (hL : L ≤ 8) (hK : 3 ≤ K) (hN : 3 * L ≤ N) : gj_G md_Ro_init (d) K N 0 0 0 [(0, .ref (n)), (1, .int (nI L))] [] n C (fun r => r.1 = .inl none ∧ r.2.1 = n + 3 ∧ r.2.2 n = .inr (3, [.ref (n + 1), .ref (n + 2), .ref (n + 3), .int 0]) ∧ r.2.2 (n + 1) = .inl (0, L, .inl (fun _ => 0)) ∧ r.2.2 (n + 2) = .inl (0, L, .inl (fun _ => 0)) ∧ r.2.2 (n + 3) = .inl (0, L, .inl (fun _ => 0)) ∧ ∀ y, y < n → r.2.2 y = C y) := by
  refine gj_aload_n d_Ro_init_0 rfl ?_
  refine gj_objInit d_Ro_init_1 gw_116 gw_41 gw_42 (Nat.le_of_ble_eq_true rfl) ?_
  refine gj_aload_n d_Ro_init_4 rfl ?_
  refine gj_kc (v := 0) d_Ro_init_5 (by decide) ?_
  refine gj_put d_Ro_init_6 gp_Ro_9 hx (Nat.le_of_ble_eq_true rfl) (fun _ => rfl) (fun _ => rfl) ?_
  obtain ⟨C1, eC1⟩ : ∃ Z0, Z0 = va_up C (n) (.inr (3, [.null, .null, .null, .int (0)])) := ⟨_, rfl⟩
  refine gj_mem eC1 ?_
  have f2 : C1 (n) = .inr (3, [.null, .null, .null, .int (0)]) := by rw [eC1]; exact va_up_self _ _ _
  refine gj_iload_n d_Ro_init_9 rfl ?_
  refine gj_kc (v := 0) d_Ro_init_10 (by decide) ?_
  refine gj_max d_Ro_init_11 gw_117 gw_118 gw_24 gw_119 (Nat.le_of_ble_eq_true rfl) (by omega) (by omega) ?_
  refine gj_top (y := nI L) (if_neg (nI_pos (by omega))) ?_
  refine gj_istore_n d_Ro_init_14 (by decide) ?_
  refine gj_aload_n d_Ro_init_15 rfl ?_
  refine gj_iload_n d_Ro_init_16 rfl ?_
  refine gj_newI (kA := 0) (len := L) d_Ro_init_17 gw_64 rfl (nI_pos (by omega)) (nI_clamp (by omega)) (by omega) (by omega) (by omega) ?_
  obtain ⟨C3, eC3⟩ : ∃ Z0, Z0 = va_up C1 (n + 1) (.inl (0, L, .inl (fun _ => 0))) := ⟨_, rfl⟩
  refine gj_mem eC3 ?_
  have f4 : C3 (n) = .inr (3, [.null, .null, .null, .int (0)]) := by rw [eC3, va_up_ne _ _ (by omega)]; exact f2
  have f5 : C3 (n + 1) = .inl (0, L, .inl (fun _ => 0)) := by rw [eC3]; exact va_up_self _ _ _
  refine gj_putF d_Ro_init_19 gp_Ro_21 rfl f4 (Nat.le_of_ble_eq_true rfl) (fun _ => rfl) (fun _ => rfl) ?_
  obtain ⟨C6, eC6⟩ : ∃ Z0, Z0 = va_up C3 (n) (.inr (3, [.ref (n + 1), .null, .null, .int (0)])) := ⟨_, rfl⟩
  refine gj_mem eC6 ?_
  have f7 : C6 (n) = .inr (3, [.ref (n + 1), .null, .null, .int (0)]) := by rw [eC6]; exact va_up_self _ _ _
  have f8 : C6 (n + 1) = .inl (0, L, .inl (fun _ => 0)) := by rw [eC6, va_up_ne _ _ (by omega)]; exact f5
  refine gj_aload_n d_Ro_init_22 rfl ?_
  refine gj_iload_n d_Ro_init_23 rfl ?_
  refine gj_newI (kA := 0) (len := L) d_Ro_init_24 gw_64 rfl (nI_pos (by omega)) (nI_clamp (by omega)) (by omega) (by omega) (by omega) ?_
  obtain ⟨C9, eC9⟩ : ∃ Z0, Z0 = va_up C6 (n + 2) (.inl (0, L, .inl (fun _ => 0))) := ⟨_, rfl⟩
  refine gj_mem eC9 ?_
  have f10 : C9 (n) = .inr (3, [.ref (n + 1), .null, .null, .int (0)]) := by rw [eC9, va_up_ne _ _ (by omega)]; exact f7
  have f11 : C9 (n + 1) = .inl (0, L, .inl (fun _ => 0)) := by rw [eC9, va_up_ne _ _ (by omega)]; exact f8
  have f12 : C9 (n + 2) = .inl (0, L, .inl (fun _ => 0)) := by rw [eC9]; exact va_up_self _ _ _
  refine gj_putF d_Ro_init_26 gp_Ro_25 rfl f10 (Nat.le_of_ble_eq_true rfl) (fun _ => rfl) (fun _ => rfl) ?_
  obtain ⟨C13, eC13⟩ : ∃ Z0, Z0 = va_up C9 (n) (.inr (3, [.ref (n + 1), .ref (n + 2), .null, .int (0)])) := ⟨_, rfl⟩
  refine gj_mem eC13 ?_
  have f14 : C13 (n) = .inr (3, [.ref (n + 1), .ref (n + 2), .null, .int (0)]) := by rw [eC13]; exact va_up_self _ _ _
  have f15 : C13 (n + 1) = .inl (0, L, .inl (fun _ => 0)) := by rw [eC13, va_up_ne _ _ (by omega)]; exact f11
  have f16 : C13 (n + 2) = .inl (0, L, .inl (fun _ => 0)) := by rw [eC13, va_up_ne _ _ (by omega)]; exact f12
  refine gj_aload_n d_Ro_init_29 rfl ?_
  refine gj_iload_n d_Ro_init_30 rfl ?_
  refine gj_newI (kA := 0) (len := L) d_Ro_init_31 gw_64 rfl (nI_pos (by omega)) (nI_clamp (by omega)) (by omega) (by omega) (by omega) ?_
  obtain ⟨C17, eC17⟩ : ∃ Z0, Z0 = va_up C13 (n + 3) (.inl (0, L, .inl (fun _ => 0))) := ⟨_, rfl⟩
  refine gj_mem eC17 ?_
  have f18 : C17 (n) = .inr (3, [.ref (n + 1), .ref (n + 2), .null, .int (0)]) := by rw [eC17, va_up_ne _ _ (by omega)]; exact f14
  have f19 : C17 (n + 1) = .inl (0, L, .inl (fun _ => 0)) := by rw [eC17, va_up_ne _ _ (by omega)]; exact f15
  have f20 : C17 (n + 2) = .inl (0, L, .inl (fun _ => 0)) := by rw [eC17, va_up_ne _ _ (by omega)]; exact f16
  have f21 : C17 (n + 3) = .inl (0, L, .inl (fun _ => 0)) := by rw [eC17]; exact va_up_self _ _ _
  refine gj_putF d_Ro_init_33 gp_Ro_28 rfl f18 (Nat.le_of_ble_eq_true rfl) (fun _ => rfl) (fun _ => rfl) ?_
  obtain ⟨C22, eC22⟩ : ∃ Z0, Z0 = va_up C17 (n) (.inr (3, [.ref (n + 1), .ref (n + 2), .ref (n + 3), .int (0)])) := ⟨_, rfl⟩
  refine gj_mem eC22 ?_
  have f23 : C22 (n) = .inr (3, [.ref (n + 1), .ref (n + 2), .ref (n + 3), .int (0)]) := by rw [eC22]; exact va_up_self _ _ _
  have f24 : C22 (n + 1) = .inl (0, L, .inl (fun _ => 0)) := by rw [eC22, va_up_ne _ _ (by omega)]; exact f19
  have f25 : C22 (n + 2) = .inl (0, L, .inl (fun _ => 0)) := by rw [eC22, va_up_ne _ _ (by omega)]; exact f20
  have f26 : C22 (n + 3) = .inl (0, L, .inl (fun _ => 0)) := by rw [eC22, va_up_ne _ _ (by omega)]; exact f21
  refine gj_vret rfl (by omega) (by omega) d_Ro_init_36 ?_
  exact ⟨rfl, rfl, f23, f24, f25, f26, fun y hy => by show C22 y = C y; rw [eC22, va_up_ne _ _ (by omega)]; rw [eC17, va_up_ne _ _ (by omega)]; rw [eC13, va_up_ne _ _ (by omega)]; rw [eC9, va_up_ne _ _ (by omega)]; rw [eC6, va_up_ne _ _ (by omega)]; rw [eC3, va_up_ne _ _ (by omega)]; rw [eC1, va_up_ne _ _ (by omega)]⟩
set_option maxHeartbeats 2000000 in
theorem c_Sh_init {d K N n x : Nat} {C : Nat → va_E} {z g v : Int32} (hx : C (x) = .inr (4, [.int (0), .int (0), .int (0), .int (0), .int (0), .int (0)])) : gj_G md_Sh_init (d) K N 0 0 0 [(0, .ref (x)), (1, .int (z)), (2, .int (g)), (3, .int (v))] [] n C (fun r => r.1 = .inl none ∧ r.2.1 = n ∧ r.2.2 x = .inr (4, [.int z, .int g, .int v, .int (-1), .int (-1), .int (-1)]) ∧ ∀ y, y ≠ x → r.2.2 y = C y) := by
  refine gj_aload_n d_Sh_init_0 rfl ?_
  refine gj_objInit d_Sh_init_1 gw_348 gw_41 gw_42 (Nat.le_of_ble_eq_true rfl) ?_
  refine gj_aload_n d_Sh_init_4 rfl ?_
  refine gj_kc (v := (-1)) d_Sh_init_5 (by decide) ?_
  refine gj_put d_Sh_init_6 gp_Sh_9 hx (Nat.le_of_ble_eq_true rfl) (fun _ => rfl) (fun _ => rfl) ?_
  obtain ⟨C1, eC1⟩ : ∃ Z0, Z0 = va_up C (x) (.inr (4, [.int (0), .int (0), .int (0), .int (-1), .int (0), .int (0)])) := ⟨_, rfl⟩
  refine gj_mem eC1 ?_
  have f2 : C1 (x) = .inr (4, [.int (0), .int (0), .int (0), .int (-1), .int (0), .int (0)]) := by rw [eC1]; exact va_up_self _ _ _
  refine gj_aload_n d_Sh_init_9 rfl ?_
  refine gj_kc (v := (-1)) d_Sh_init_10 (by decide) ?_
  refine gj_put d_Sh_init_11 gp_Sh_15 f2 (Nat.le_of_ble_eq_true rfl) (fun _ => rfl) (fun _ => rfl) ?_
  obtain ⟨C3, eC3⟩ : ∃ Z0, Z0 = va_up C1 (x) (.inr (4, [.int (0), .int (0), .int (0), .int (-1), .int (-1), .int (0)])) := ⟨_, rfl⟩
  refine gj_mem eC3 ?_
  have f4 : C3 (x) = .inr (4, [.int (0), .int (0), .int (0), .int (-1), .int (-1), .int (0)]) := by rw [eC3]; exact va_up_self _ _ _
  refine gj_aload_n d_Sh_init_14 rfl ?_
  refine gj_kc (v := (-1)) d_Sh_init_15 (by decide) ?_
  refine gj_put d_Sh_init_16 gp_Sh_18 f4 (Nat.le_of_ble_eq_true rfl) (fun _ => rfl) (fun _ => rfl) ?_
  obtain ⟨C5, eC5⟩ : ∃ Z0, Z0 = va_up C3 (x) (.inr (4, [.int (0), .int (0), .int (0), .int (-1), .int (-1), .int (-1)])) := ⟨_, rfl⟩
  refine gj_mem eC5 ?_
  have f6 : C5 (x) = .inr (4, [.int (0), .int (0), .int (0), .int (-1), .int (-1), .int (-1)]) := by rw [eC5]; exact va_up_self _ _ _
  refine gj_aload_n d_Sh_init_19 rfl ?_
  refine gj_iload_n d_Sh_init_20 rfl ?_
  refine gj_putF d_Sh_init_21 gp_Sh_21 rfl f6 (Nat.le_of_ble_eq_true rfl) (fun _ => rfl) (fun _ => rfl) ?_
  obtain ⟨C7, eC7⟩ : ∃ Z0, Z0 = va_up C5 (x) (.inr (4, [.int (z), .int (0), .int (0), .int (-1), .int (-1), .int (-1)])) := ⟨_, rfl⟩
  refine gj_mem eC7 ?_
  have f8 : C7 (x) = .inr (4, [.int (z), .int (0), .int (0), .int (-1), .int (-1), .int (-1)]) := by rw [eC7]; exact va_up_self _ _ _
  refine gj_aload_n d_Sh_init_24 rfl ?_
  refine gj_iload_n d_Sh_init_25 rfl ?_
  refine gj_put d_Sh_init_26 gp_Sh_24 f8 (Nat.le_of_ble_eq_true rfl) (fun _ => rfl) (fun _ => rfl) ?_
  obtain ⟨C9, eC9⟩ : ∃ Z0, Z0 = va_up C7 (x) (.inr (4, [.int (z), .int (g), .int (0), .int (-1), .int (-1), .int (-1)])) := ⟨_, rfl⟩
  refine gj_mem eC9 ?_
  have f10 : C9 (x) = .inr (4, [.int (z), .int (g), .int (0), .int (-1), .int (-1), .int (-1)]) := by rw [eC9]; exact va_up_self _ _ _
  refine gj_aload_n d_Sh_init_29 rfl ?_
  refine gj_iload_n d_Sh_init_30 rfl ?_
  refine gj_put d_Sh_init_31 gp_Sh_27 f10 (Nat.le_of_ble_eq_true rfl) (fun _ => rfl) (fun _ => rfl) ?_
  obtain ⟨C11, eC11⟩ : ∃ Z0, Z0 = va_up C9 (x) (.inr (4, [.int (z), .int (g), .int (v), .int (-1), .int (-1), .int (-1)])) := ⟨_, rfl⟩
  refine gj_mem eC11 ?_
  have f12 : C11 (x) = .inr (4, [.int (z), .int (g), .int (v), .int (-1), .int (-1), .int (-1)]) := by rw [eC11]; exact va_up_self _ _ _
  refine gj_vret rfl (Nat.zero_le _) (Nat.zero_le _) d_Sh_init_34 ?_
  exact ⟨rfl, rfl, f12, fun y hy => by show C11 y = C y; rw [eC11, va_up_ne _ _ hy, eC9, va_up_ne _ _ hy, eC7, va_up_ne _ _ hy, eC5, va_up_ne _ _ hy, eC3, va_up_ne _ _ hy, eC1, va_up_ne _ _ hy]⟩
