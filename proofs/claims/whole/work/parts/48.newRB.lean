/-! new RateBreaks() -/
/-- a Ratios at x: its length L, its rows, its size -/
def pr_R (C : Nat → va_E) (x L : Nat) (fr up dn : Nat → Int32) (sz : Nat) : Prop := C x = .inr (3, [.ref (x + 1), .ref (x + 2), .ref (x + 3), .int (nI sz)]) ∧ C (x + 1) = .inl (0, L, .inl fr) ∧ C (x + 2) = .inl (0, L, .inl up) ∧ C (x + 3) = .inl (0, L, .inl dn)
theorem pr_R_of {C C2 : Nat → va_E} {x L sz : Nat} {fr up dn : Nat → Int32} (h : pr_R C x L fr up dn sz) (e : ∀ y, x ≤ y → y ≤ x + 3 → C2 y = C y) : pr_R C2 x L fr up dn sz := ⟨(e _ (by omega) (by omega)).trans h.1, (e _ (by omega) (by omega)).trans h.2.1, (e _ (by omega) (by omega)).trans h.2.2.1, (e _ (by omega) (by omega)).trans h.2.2.2⟩
theorem pr_M_of {C C2 : Nat → va_E} {x : Nat} {T : pr_T} {li : Int32} (h : pr_M C x T li) (e : ∀ y, x ≤ y → y ≤ x + 8 → C2 y = C y) : pr_M C2 x T li := by
  obtain ⟨h0, h1, h2, h3, h4, h5, h6, h7, h8⟩ := h
  exact ⟨(e _ (by omega) (by omega)).trans h0, (e _ (by omega) (by omega)).trans h1, (e _ (by omega) (by omega)).trans h2, (e _ (by omega) (by omega)).trans h3, (e _ (by omega) (by omega)).trans h4, (e _ (by omega) (by omega)).trans h5, (e _ (by omega) (by omega)).trans h6, (e _ (by omega) (by omega)).trans h7, (e _ (by omega) (by omega)).trans h8⟩
theorem gj_room {md : gj_M} {d K N k w k2 w2 pc : Nat} {lc : List (Nat × Value)} {st : List Value} {n : Nat} {C : Nat → va_E} {Q : gj_R → Prop} (h1 : k = k2) (h2 : w = w2) (kk : gj_G md d K N k w pc lc st n C Q) : gj_G md d K N k2 w2 pc lc st n C Q := by subst h1; subst h2; exact kk
theorem gj_lab {md : gj_M} {d K N k w pc : Nat} {lc : List (Nat × Value)} {st : List Value} {n n2 : Nat} {C : Nat → va_E} {Q : gj_R → Prop} (h1 : n = n2) (kk : gj_G md d K N k w pc lc st n C Q) : gj_G md d K N k w pc lc st n2 C Q := by subst h1; exact kk
set_option maxHeartbeats 2000000 in
theorem c_RB_init_loop {d K N : Nat} {Q : gj_R → Prop} : ∀ (m : Nat) (i : Nat) (k : Nat) (w : Nat) (C : Nat → va_E) (co : Nat → Option Nat), i + m = 10 → k + 4 * m + 10 ≤ K → w + 16 * m + 100 ≤ N → C 1 = .inr (0, [.ref (2), .ref (5), .ref (14), .ref (23), .int (0), .ref (24), .null, .null]) → C 24 = .inl (4, 10, .inr (.inr (.inr (.inr co)))) → ((∀ j, j < i → co j = some (25 + 4 * j) ∧ pr_R C (25 + 4 * j) 4 (fun _ => 0) (fun _ => 0) (fun _ => 0) 0)) → (∀ (C2 : Nat → va_E) (co : Nat → Option Nat), C2 1 = C 1 → C2 24 = .inl (4, 10, .inr (.inr (.inr (.inr co)))) → (∀ j, j < 10 → co j = some (25 + 4 * j) ∧ pr_R C2 (25 + 4 * j) 4 (fun _ => 0) (fun _ => 0) (fun _ => 0) 0) → (∀ y, y ≠ 24 → y < 25 + 4 * i → C2 y = C y) → gj_G md_RB_init (d + 2) K N (k + 4 * m) (w + 16 * m) 88 [(0, .ref 1)] [] 64 C2 Q) → gj_G md_RB_init (d + 2) K N k w 62 [(0, .ref (1)), (1, .int (nI i))] [] (24 + 4 * i) C Q := by
  intro m
  induction m with
  | zero =>
    intro i k w C co hm hk hw o1 o24 hall hend
    refine gj_iload_n d_RB_init_62 rfl ?_
    refine gj_kb (v := 10) d_RB_init_63 (by decide) ?_
    refine gj_icmp_ge (tgt := 88) d_RB_init_65 (by decide) (fun h65 => ?_) (fun h65 => by have m65 : ¬ (10 ≤ i) := fun q => h65 ((nI_leI (a := 10) (b := i) (by omega) (by omega)).mpr q); exact absurd (show 10 ≤ i from by omega) m65)
    have m65 : 10 ≤ i := (nI_leI (a := 10) (b := i) (by omega) (by omega)).mp h65
    refine gj_less (lc' := [(0, .ref (1))]) ⟨rfl, trivial⟩ ?_
    have hi : i = 10 := by omega
    subst hi
    exact hend C co rfl o24 hall (fun _ _ _ => rfl)
  | succ m ih =>
    intro i k w C co hm hk hw o1 o24 hall hend
    refine gj_iload_n d_RB_init_62 rfl ?_
    refine gj_kb (v := 10) d_RB_init_63 (by decide) ?_
    refine gj_icmp_ge (tgt := 88) d_RB_init_65 (by decide) (fun h65 => by have m65 : 10 ≤ i := (nI_leI (a := 10) (b := i) (by omega) (by omega)).mp h65; exact absurd m65 (show ¬ (10 ≤ i) from by omega)) (fun h65 => ?_)
    have m65 : ¬ (10 ≤ i) := fun q => h65 ((nI_leI (a := 10) (b := i) (by omega) (by omega)).mpr q)
    refine gj_aload_n d_RB_init_68 rfl ?_
    refine gj_get d_RB_init_69 gf_RB_38 o1 rfl ?_
    refine gj_iload_n d_RB_init_72 rfl ?_
    refine gj_new d_RB_init_73 gn_RB_36 (by omega) (by omega) ?_
    obtain ⟨C1, eC1⟩ : ∃ Z0, Z0 = va_up C (24 + 4 * i + 1) (.inr (3, [.null, .null, .null, .int (0)])) := ⟨_, rfl⟩
    refine gj_mem eC1 ?_
    have f2 : C1 (1) = .inr (0, [.ref (2), .ref (5), .ref (14), .ref (23), .int (0), .ref (24), .null, .null]) := by rw [eC1, va_up_ne _ _ (by omega)]; exact o1
    have f3 : C1 (24) = .inl (4, 10, .inr (.inr (.inr (.inr co)))) := by rw [eC1, va_up_ne _ _ (by omega)]; exact o24
    have f4 : C1 (24 + 4 * i + 1) = .inr (3, [.null, .null, .null, .int (0)]) := by rw [eC1]; exact va_up_self _ _ _
    refine gj_dup d_RB_init_76 rfl ?_
    refine gj_kc (v := 4) d_RB_init_77 (by decide) ?_
    refine gj_topv (v := .int (nI 4)) rfl ?_
    refine gj_callI (x := 24 + 4 * i + 1) (as := [.int (nI 4)]) (rest := [.ref (24 + 4 * i + 1), .int (nI i), .ref (24)]) (K1 := 3) (N1 := (3 * 4)) d_RB_init_78 mo_Ro_init rfl rfl rfl gw_115 gw_113 gw_114 pl_Ro_init (Nat.le_of_ble_eq_true rfl) (Nat.le_of_ble_eq_true rfl) (by omega) (by omega) (c_Ro_init f4 (by omega) (Nat.le_refl 3) (Nat.le_refl _)) (fun E n' C' _ h => by obtain ⟨hv, -⟩ := h; exact nomatch hv) (fun v5 n5 C5 _ h5 => ?_)
    obtain ⟨hv5, hn5, u5_0, u5_1, u5_2, u5_3, hr5⟩ := h5
    dsimp only at hv5 hn5 hr5 u5_0 u5_1 u5_2 u5_3
    cases hv5; cases hn5
    have f6 : C5 (1) = .inr (0, [.ref (2), .ref (5), .ref (14), .ref (23), .int (0), .ref (24), .null, .null]) := (hr5 _ (by omega)).trans f2
    have f7 : C5 (24) = .inl (4, 10, .inr (.inr (.inr (.inr co)))) := (hr5 _ (by omega)).trans f3
    refine gj_aast d_RB_init_81 f7 u5_0 rfl rfl (vp_in_nI (by omega) (by decide)) ?_
    obtain ⟨C8, eC8⟩ : ∃ Z0, Z0 = va_up C5 (24) (.inl (4, 10, .inr (.inr (.inr (.inr (va_up co (i) (some (24 + 4 * i + 1)))))))) := ⟨_, rfl⟩
    refine gj_mem (eC8.trans (by rw [nI_clamp (by omega)])) ?_
    have f9 : C8 (24 + 4 * i + 1) = .inr (3, [.ref (24 + 4 * i + 1 + 1), .ref (24 + 4 * i + 1 + 2), .ref (24 + 4 * i + 1 + 3), .int (0)]) := by rw [eC8, va_up_ne _ _ (by omega)]; exact u5_0
    have f10 : C8 (24 + 4 * i + 1 + 1) = .inl (0, 4, .inl (fun _ => 0)) := by rw [eC8, va_up_ne _ _ (by omega)]; exact u5_1
    have f11 : C8 (24 + 4 * i + 1 + 2) = .inl (0, 4, .inl (fun _ => 0)) := by rw [eC8, va_up_ne _ _ (by omega)]; exact u5_2
    have f12 : C8 (24 + 4 * i + 1 + 3) = .inl (0, 4, .inl (fun _ => 0)) := by rw [eC8, va_up_ne _ _ (by omega)]; exact u5_3
    have f13 : C8 (1) = .inr (0, [.ref (2), .ref (5), .ref (14), .ref (23), .int (0), .ref (24), .null, .null]) := by rw [eC8, va_up_ne _ _ (by omega)]; exact f6
    have f14 : C8 (24) = .inl (4, 10, .inr (.inr (.inr (.inr (va_up co (i) (some (24 + 4 * i + 1))))))) := by rw [eC8]; exact va_up_self _ _ _
    refine gj_iincN d_RB_init_82 rfl (by decide) ?_
    refine gj_goto (tgt := 62) d_RB_init_85 (by decide) ?_
    refine gj_less (lc' := [(0, .ref (1)), (1, .int (nI (i + 1)))]) ⟨rfl, rfl, trivial⟩ ?_
    have hfr : ∀ y, y ≠ 24 → y < 24 + 4 * i + 1 → C8 y = C y := fun y a1 a2 => by rw [eC8, va_up_ne _ _ a1, hr5 y a2, eC1, va_up_ne _ _ (by omega)]
    refine gj_room (k := k + (1 + 3)) (w := w + (4 + 12)) (by omega) (by omega) ?_
    refine gj_lab (n := 24 + 4 * (i + 1)) (by omega) ?_
    refine ih (i + 1) (k + (1 + 3)) (w + (4 + 12)) _ _ (by omega) (by omega) (by omega) f13 f14 ?_ (fun C2 co2 q1 q2 q3 q4 => gj_room (k := k + 4 * (m + 1)) (w := w + 16 * (m + 1)) (by omega) (by omega) (hend C2 co2 (q1.trans ?_) q2 q3 (fun y a1 a2 => (q4 y a1 (by omega)).trans (hfr y (by omega) (by omega)))))
    · intro j hj
      by_cases hji : j = i
      · subst hji
        refine ⟨(va_up_self _ _ _).trans (congrArg some (by omega)), ?_⟩
        have e : 24 + 4 * j + 1 = 25 + 4 * j := by omega
        rw [← e]
        exact ⟨f9, f10, f11, f12⟩
      · obtain ⟨q1, q2⟩ := hall j (by omega)
        exact ⟨(va_up_ne _ _ hji).trans q1, pr_R_of q2 (fun y a1 a2 => hfr y (by omega) (by omega))⟩
    · rw [eC8, va_up_ne _ _ (by decide), hr5 1 (by omega), eC1, va_up_ne _ _ (by omega)]
set_option maxHeartbeats 2000000 in
theorem c_RB_init {d K N : Nat} {C : Nat → va_E} (o1 : C (1) = .inr (0, [.null, .null, .null, .null, .int (0), .null, .null, .null])) (hK : 100 ≤ K) (hN : 3000 ≤ N) : gj_G md_RB_init (d + 2) K N 0 0 0 [(0, .ref (1))] [] (1) C (fun r => r.1 = .inl none ∧ r.2.1 = 69 ∧ r.2.2 1 = .inr (0, [.ref 2, .ref 5, .ref 14, .ref 23, .int 0, .ref 24, .ref 65, .ref 66]) ∧ r.2.2 2 = .inr (1, [.ref 3, .ref 4, .int 0, .int 0]) ∧ r.2.2 3 = .inl (0, 600, .inl (fun _ => 0)) ∧ r.2.2 4 = .inl (0, 4, .inl (fun _ => 0)) ∧ r.2.2 23 = .inl (3, 20, .inr (.inr (.inr (.inr (fun _ => none))))) ∧ r.2.2 65 = .inl (0, 10, .inl (fun _ => 0)) ∧ pr_M r.2.2 5 pr_T0 0 ∧ pr_M r.2.2 14 pr_T0 0 ∧ (∃ co, r.2.2 24 = .inl (4, 10, .inr (.inr (.inr (.inr co)))) ∧ ∀ j, j < 10 → co j = some (25 + 4 * j) ∧ pr_R r.2.2 (25 + 4 * j) 4 (fun _ => 0) (fun _ => 0) (fun _ => 0) 0) ∧ pr_R r.2.2 66 8 (fun _ => 0) (fun _ => 0) (fun _ => 0) 0 ∧ ∀ y, y < 1 → r.2.2 y = C y) := by
  refine gj_aload_n d_RB_init_0 rfl ?_
  refine gj_objInit d_RB_init_1 gw_40 gw_41 gw_42 (Nat.le_of_ble_eq_true rfl) ?_
  refine gj_aload_n d_RB_init_4 rfl ?_
  refine gj_new d_RB_init_5 gn_RB_7 (by omega) (by omega) ?_
  obtain ⟨C1, eC1⟩ : ∃ Z0, Z0 = va_up C (2) (.inr (1, [.null, .null, .int (0), .int (0)])) := ⟨_, rfl⟩
  refine gj_mem eC1 ?_
  have f2 : C1 (1) = .inr (0, [.null, .null, .null, .null, .int (0), .null, .null, .null]) := by rw [eC1, va_up_ne _ _ (by omega)]; exact o1
  have f3 : C1 (2) = .inr (1, [.null, .null, .int (0), .int (0)]) := by rw [eC1]; exact va_up_self _ _ _
  refine gj_dup d_RB_init_8 rfl ?_
  refine gj_callIN (x := 2) (as := []) (rest := [.ref (2), .ref (1)]) (K1 := 2) (N1 := 604) d_RB_init_9 mo_Tx_init rfl gw_47 gw_45 gw_46 pl_Tx_init (Nat.le_of_ble_eq_true rfl) (Nat.le_of_ble_eq_true rfl) (by omega) (by omega) (c_Tx_init f3 (Nat.le_refl 2) (Nat.le_refl 604)) (fun E n' C' _ h => by obtain ⟨hv, -⟩ := h; exact nomatch hv) (fun v4 n4 C4 _ h4 => ?_)
  obtain ⟨hv4, hn4, u4_0, u4_1, u4_2, hr4⟩ := h4
  dsimp only at hv4 hn4 hr4 u4_0 u4_1 u4_2
  cases hv4; cases hn4
  have f5 : C4 (1) = .inr (0, [.null, .null, .null, .null, .int (0), .null, .null, .null]) := (hr4 _ (by omega)).trans f2
  refine gj_putF d_RB_init_12 gp_RB_10 rfl f5 (Nat.le_of_ble_eq_true rfl) (fun _ => rfl) (fun _ => rfl) ?_
  obtain ⟨C6, eC6⟩ : ∃ Z0, Z0 = va_up C4 (1) (.inr (0, [.ref (2), .null, .null, .null, .int (0), .null, .null, .null])) := ⟨_, rfl⟩
  refine gj_mem eC6 ?_
  have f7 : C6 (2) = .inr (1, [.ref (3), .ref (4), .int (0), .int (0)]) := by rw [eC6, va_up_ne _ _ (by omega)]; exact u4_0
  have f8 : C6 (3) = .inl (0, 600, .inl (fun _ => 0)) := by rw [eC6, va_up_ne _ _ (by omega)]; exact u4_1
  have f9 : C6 (4) = .inl (0, 4, .inl (fun _ => 0)) := by rw [eC6, va_up_ne _ _ (by omega)]; exact u4_2
  have f10 : C6 (1) = .inr (0, [.ref (2), .null, .null, .null, .int (0), .null, .null, .null]) := by rw [eC6]; exact va_up_self _ _ _
  refine gj_aload_n d_RB_init_15 rfl ?_
  refine gj_new d_RB_init_16 gn_RB_16 (by omega) (by omega) ?_
  obtain ⟨C11, eC11⟩ : ∃ Z0, Z0 = va_up C6 (5) (.inr (2, [.null, .null, .null, .null, .null, .null, .null, .null, .int (0), .int (0)])) := ⟨_, rfl⟩
  refine gj_mem eC11 ?_
  have f12 : C11 (2) = .inr (1, [.ref (3), .ref (4), .int (0), .int (0)]) := by rw [eC11, va_up_ne _ _ (by omega)]; exact f7
  have f13 : C11 (3) = .inl (0, 600, .inl (fun _ => 0)) := by rw [eC11, va_up_ne _ _ (by omega)]; exact f8
  have f14 : C11 (4) = .inl (0, 4, .inl (fun _ => 0)) := by rw [eC11, va_up_ne _ _ (by omega)]; exact f9
  have f15 : C11 (1) = .inr (0, [.ref (2), .null, .null, .null, .int (0), .null, .null, .null]) := by rw [eC11, va_up_ne _ _ (by omega)]; exact f10
  have f16 : C11 (5) = .inr (2, [.null, .null, .null, .null, .null, .null, .null, .null, .int (0), .int (0)]) := by rw [eC11]; exact va_up_self _ _ _
  refine gj_dup d_RB_init_19 rfl ?_
  refine gj_callI (x := 5) (as := []) (rest := [.ref (5), .ref (1)]) (K1 := 8) (N1 := 280) d_RB_init_20 mo_Ra_init rfl rfl rfl gw_69 gw_67 gw_68 pl_Ra_init (Nat.le_of_ble_eq_true rfl) (Nat.le_of_ble_eq_true rfl) (by omega) (by omega) (c_Ra_init f16 (Nat.le_refl 8) (Nat.le_refl 280)) (fun E n' C' _ h => by obtain ⟨hv, -⟩ := h; exact nomatch hv) (fun v17 n17 C17 _ h17 => ?_)
  obtain ⟨hv17, hn17, hM5, hr17⟩ := h17
  dsimp only at hv17 hn17 hM5 hr17
  cases hv17; cases hn17
  have f18 : C17 (2) = .inr (1, [.ref (3), .ref (4), .int (0), .int (0)]) := (hr17 _ (by omega)).trans f12
  have f19 : C17 (3) = .inl (0, 600, .inl (fun _ => 0)) := (hr17 _ (by omega)).trans f13
  have f20 : C17 (4) = .inl (0, 4, .inl (fun _ => 0)) := (hr17 _ (by omega)).trans f14
  have f21 : C17 (1) = .inr (0, [.ref (2), .null, .null, .null, .int (0), .null, .null, .null]) := (hr17 _ (by omega)).trans f15
  refine gj_put d_RB_init_23 gp_RB_19 f21 (Nat.le_of_ble_eq_true rfl) (fun _ => rfl) (fun _ => rfl) ?_
  obtain ⟨C22, eC22⟩ : ∃ Z0, Z0 = va_up C17 (1) (.inr (0, [.ref (2), .ref (5), .null, .null, .int (0), .null, .null, .null])) := ⟨_, rfl⟩
  refine gj_mem eC22 ?_
  have f23 : C22 (2) = .inr (1, [.ref (3), .ref (4), .int (0), .int (0)]) := by rw [eC22, va_up_ne _ _ (by omega)]; exact f18
  have f24 : C22 (3) = .inl (0, 600, .inl (fun _ => 0)) := by rw [eC22, va_up_ne _ _ (by omega)]; exact f19
  have f25 : C22 (4) = .inl (0, 4, .inl (fun _ => 0)) := by rw [eC22, va_up_ne _ _ (by omega)]; exact f20
  have f26 : C22 (1) = .inr (0, [.ref (2), .ref (5), .null, .null, .int (0), .null, .null, .null]) := by rw [eC22]; exact va_up_self _ _ _
  refine gj_aload_n d_RB_init_26 rfl ?_
  refine gj_new d_RB_init_27 gn_RB_16 (by omega) (by omega) ?_
  obtain ⟨C27, eC27⟩ : ∃ Z0, Z0 = va_up C22 (14) (.inr (2, [.null, .null, .null, .null, .null, .null, .null, .null, .int (0), .int (0)])) := ⟨_, rfl⟩
  refine gj_mem eC27 ?_
  have f28 : C27 (2) = .inr (1, [.ref (3), .ref (4), .int (0), .int (0)]) := by rw [eC27, va_up_ne _ _ (by omega)]; exact f23
  have f29 : C27 (3) = .inl (0, 600, .inl (fun _ => 0)) := by rw [eC27, va_up_ne _ _ (by omega)]; exact f24
  have f30 : C27 (4) = .inl (0, 4, .inl (fun _ => 0)) := by rw [eC27, va_up_ne _ _ (by omega)]; exact f25
  have f31 : C27 (1) = .inr (0, [.ref (2), .ref (5), .null, .null, .int (0), .null, .null, .null]) := by rw [eC27, va_up_ne _ _ (by omega)]; exact f26
  have f32 : C27 (14) = .inr (2, [.null, .null, .null, .null, .null, .null, .null, .null, .int (0), .int (0)]) := by rw [eC27]; exact va_up_self _ _ _
  refine gj_dup d_RB_init_30 rfl ?_
  refine gj_callI (x := 14) (as := []) (rest := [.ref (14), .ref (1)]) (K1 := 8) (N1 := 280) d_RB_init_31 mo_Ra_init rfl rfl rfl gw_69 gw_67 gw_68 pl_Ra_init (Nat.le_of_ble_eq_true rfl) (Nat.le_of_ble_eq_true rfl) (by omega) (by omega) (c_Ra_init f32 (Nat.le_refl 8) (Nat.le_refl 280)) (fun E n' C' _ h => by obtain ⟨hv, -⟩ := h; exact nomatch hv) (fun v33 n33 C33 _ h33 => ?_)
  obtain ⟨hv33, hn33, hM14, hr33⟩ := h33
  dsimp only at hv33 hn33 hM14 hr33
  cases hv33; cases hn33
  have f34 : C33 (2) = .inr (1, [.ref (3), .ref (4), .int (0), .int (0)]) := (hr33 _ (by omega)).trans f28
  have f35 : C33 (3) = .inl (0, 600, .inl (fun _ => 0)) := (hr33 _ (by omega)).trans f29
  have f36 : C33 (4) = .inl (0, 4, .inl (fun _ => 0)) := (hr33 _ (by omega)).trans f30
  have f37 : C33 (1) = .inr (0, [.ref (2), .ref (5), .null, .null, .int (0), .null, .null, .null]) := (hr33 _ (by omega)).trans f31
  refine gj_put d_RB_init_34 gp_RB_23 f37 (Nat.le_of_ble_eq_true rfl) (fun _ => rfl) (fun _ => rfl) ?_
  obtain ⟨C38, eC38⟩ : ∃ Z0, Z0 = va_up C33 (1) (.inr (0, [.ref (2), .ref (5), .ref (14), .null, .int (0), .null, .null, .null])) := ⟨_, rfl⟩
  refine gj_mem eC38 ?_
  have f39 : C38 (2) = .inr (1, [.ref (3), .ref (4), .int (0), .int (0)]) := by rw [eC38, va_up_ne _ _ (by omega)]; exact f34
  have f40 : C38 (3) = .inl (0, 600, .inl (fun _ => 0)) := by rw [eC38, va_up_ne _ _ (by omega)]; exact f35
  have f41 : C38 (4) = .inl (0, 4, .inl (fun _ => 0)) := by rw [eC38, va_up_ne _ _ (by omega)]; exact f36
  have f42 : C38 (1) = .inr (0, [.ref (2), .ref (5), .ref (14), .null, .int (0), .null, .null, .null]) := by rw [eC38]; exact va_up_self _ _ _
  refine gj_aload_n d_RB_init_37 rfl ?_
  refine gj_kb (v := 20) d_RB_init_38 (by decide) ?_
  refine gj_newQ (kA := 3) (len := 20) d_RB_init_40 gw_108 gw_109 rfl (by decide) (by decide) (by omega) (by omega) (by omega) ?_
  obtain ⟨C43, eC43⟩ : ∃ Z0, Z0 = va_up C38 (23) (.inl (3, 20, .inr (.inr (.inr (.inr (fun _ => none)))))) := ⟨_, rfl⟩
  refine gj_mem eC43 ?_
  have f44 : C43 (2) = .inr (1, [.ref (3), .ref (4), .int (0), .int (0)]) := by rw [eC43, va_up_ne _ _ (by omega)]; exact f39
  have f45 : C43 (3) = .inl (0, 600, .inl (fun _ => 0)) := by rw [eC43, va_up_ne _ _ (by omega)]; exact f40
  have f46 : C43 (4) = .inl (0, 4, .inl (fun _ => 0)) := by rw [eC43, va_up_ne _ _ (by omega)]; exact f41
  have f47 : C43 (1) = .inr (0, [.ref (2), .ref (5), .ref (14), .null, .int (0), .null, .null, .null]) := by rw [eC43, va_up_ne _ _ (by omega)]; exact f42
  have f48 : C43 (23) = .inl (3, 20, .inr (.inr (.inr (.inr (fun _ => none))))) := by rw [eC43]; exact va_up_self _ _ _
  refine gj_putF d_RB_init_43 gp_RB_28 rfl f47 (Nat.le_of_ble_eq_true rfl) (fun _ => rfl) (fun _ => rfl) ?_
  obtain ⟨C49, eC49⟩ : ∃ Z0, Z0 = va_up C43 (1) (.inr (0, [.ref (2), .ref (5), .ref (14), .ref (23), .int (0), .null, .null, .null])) := ⟨_, rfl⟩
  refine gj_mem eC49 ?_
  have f50 : C49 (2) = .inr (1, [.ref (3), .ref (4), .int (0), .int (0)]) := by rw [eC49, va_up_ne _ _ (by omega)]; exact f44
  have f51 : C49 (3) = .inl (0, 600, .inl (fun _ => 0)) := by rw [eC49, va_up_ne _ _ (by omega)]; exact f45
  have f52 : C49 (4) = .inl (0, 4, .inl (fun _ => 0)) := by rw [eC49, va_up_ne _ _ (by omega)]; exact f46
  have f53 : C49 (1) = .inr (0, [.ref (2), .ref (5), .ref (14), .ref (23), .int (0), .null, .null, .null]) := by rw [eC49]; exact va_up_self _ _ _
  have f54 : C49 (23) = .inl (3, 20, .inr (.inr (.inr (.inr (fun _ => none))))) := by rw [eC49, va_up_ne _ _ (by omega)]; exact f48
  refine gj_aload_n d_RB_init_46 rfl ?_
  refine gj_kc (v := 0) d_RB_init_47 (by decide) ?_
  refine gj_put d_RB_init_48 gp_RB_32 f53 (Nat.le_of_ble_eq_true rfl) (fun _ => rfl) (fun _ => rfl) ?_
  obtain ⟨C55, eC55⟩ : ∃ Z0, Z0 = va_up C49 (1) (.inr (0, [.ref (2), .ref (5), .ref (14), .ref (23), .int (0), .null, .null, .null])) := ⟨_, rfl⟩
  refine gj_mem eC55 ?_
  have f56 : C55 (2) = .inr (1, [.ref (3), .ref (4), .int (0), .int (0)]) := by rw [eC55, va_up_ne _ _ (by omega)]; exact f50
  have f57 : C55 (3) = .inl (0, 600, .inl (fun _ => 0)) := by rw [eC55, va_up_ne _ _ (by omega)]; exact f51
  have f58 : C55 (4) = .inl (0, 4, .inl (fun _ => 0)) := by rw [eC55, va_up_ne _ _ (by omega)]; exact f52
  have f59 : C55 (1) = .inr (0, [.ref (2), .ref (5), .ref (14), .ref (23), .int (0), .null, .null, .null]) := by rw [eC55]; exact va_up_self _ _ _
  have f60 : C55 (23) = .inl (3, 20, .inr (.inr (.inr (.inr (fun _ => none))))) := by rw [eC55, va_up_ne _ _ (by omega)]; exact f54
  refine gj_aload_n d_RB_init_51 rfl ?_
  refine gj_kb (v := 10) d_RB_init_52 (by decide) ?_
  refine gj_newQ (kA := 4) (len := 10) d_RB_init_54 gw_110 gw_111 rfl (by decide) (by decide) (by omega) (by omega) (by omega) ?_
  obtain ⟨C61, eC61⟩ : ∃ Z0, Z0 = va_up C55 (24) (.inl (4, 10, .inr (.inr (.inr (.inr (fun _ => none)))))) := ⟨_, rfl⟩
  refine gj_mem eC61 ?_
  have f62 : C61 (2) = .inr (1, [.ref (3), .ref (4), .int (0), .int (0)]) := by rw [eC61, va_up_ne _ _ (by omega)]; exact f56
  have f63 : C61 (3) = .inl (0, 600, .inl (fun _ => 0)) := by rw [eC61, va_up_ne _ _ (by omega)]; exact f57
  have f64 : C61 (4) = .inl (0, 4, .inl (fun _ => 0)) := by rw [eC61, va_up_ne _ _ (by omega)]; exact f58
  have f65 : C61 (1) = .inr (0, [.ref (2), .ref (5), .ref (14), .ref (23), .int (0), .null, .null, .null]) := by rw [eC61, va_up_ne _ _ (by omega)]; exact f59
  have f66 : C61 (23) = .inl (3, 20, .inr (.inr (.inr (.inr (fun _ => none))))) := by rw [eC61, va_up_ne _ _ (by omega)]; exact f60
  have f67 : C61 (24) = .inl (4, 10, .inr (.inr (.inr (.inr (fun _ => none))))) := by rw [eC61]; exact va_up_self _ _ _
  refine gj_putF d_RB_init_57 gp_RB_38 rfl f65 (Nat.le_of_ble_eq_true rfl) (fun _ => rfl) (fun _ => rfl) ?_
  obtain ⟨C68, eC68⟩ : ∃ Z0, Z0 = va_up C61 (1) (.inr (0, [.ref (2), .ref (5), .ref (14), .ref (23), .int (0), .ref (24), .null, .null])) := ⟨_, rfl⟩
  refine gj_mem eC68 ?_
  have f69 : C68 (2) = .inr (1, [.ref (3), .ref (4), .int (0), .int (0)]) := by rw [eC68, va_up_ne _ _ (by omega)]; exact f62
  have f70 : C68 (3) = .inl (0, 600, .inl (fun _ => 0)) := by rw [eC68, va_up_ne _ _ (by omega)]; exact f63
  have f71 : C68 (4) = .inl (0, 4, .inl (fun _ => 0)) := by rw [eC68, va_up_ne _ _ (by omega)]; exact f64
  have f72 : C68 (1) = .inr (0, [.ref (2), .ref (5), .ref (14), .ref (23), .int (0), .ref (24), .null, .null]) := by rw [eC68]; exact va_up_self _ _ _
  have f73 : C68 (23) = .inl (3, 20, .inr (.inr (.inr (.inr (fun _ => none))))) := by rw [eC68, va_up_ne _ _ (by omega)]; exact f66
  have f74 : C68 (24) = .inl (4, 10, .inr (.inr (.inr (.inr (fun _ => none))))) := by rw [eC68, va_up_ne _ _ (by omega)]; exact f67
  refine gj_kc (v := 0) d_RB_init_60 (by decide) ?_
  refine gj_istore_n d_RB_init_61 (by decide) ?_
  refine gj_less (lc' := [(0, .ref (1)), (1, .int (nI 0))]) ⟨rfl, rfl, trivial⟩ ?_
  have M5 : pr_M C68 5 pr_T0 0 := pr_M_of hM5 (fun y a1 a2 => by show C68 y = C17 y; rw [eC68, va_up_ne _ _ (by omega)]; rw [eC61, va_up_ne _ _ (by omega)]; rw [eC55, va_up_ne _ _ (by omega)]; rw [eC49, va_up_ne _ _ (by omega)]; rw [eC43, va_up_ne _ _ (by omega)]; rw [eC38, va_up_ne _ _ (by omega)]; rw [hr33 y (by omega)]; rw [eC27, va_up_ne _ _ (by omega)]; rw [eC22, va_up_ne _ _ (by omega)])
  have M14 : pr_M C68 14 pr_T0 0 := pr_M_of hM14 (fun y a1 a2 => by show C68 y = C33 y; rw [eC68, va_up_ne _ _ (by omega)]; rw [eC61, va_up_ne _ _ (by omega)]; rw [eC55, va_up_ne _ _ (by omega)]; rw [eC49, va_up_ne _ _ (by omega)]; rw [eC43, va_up_ne _ _ (by omega)]; rw [eC38, va_up_ne _ _ (by omega)])
  have hfr0 : ∀ y, y < 1 → C68 y = C y := fun y a1 => by show C68 y = C y; rw [eC68, va_up_ne _ _ (by omega)]; rw [eC61, va_up_ne _ _ (by omega)]; rw [eC55, va_up_ne _ _ (by omega)]; rw [eC49, va_up_ne _ _ (by omega)]; rw [eC43, va_up_ne _ _ (by omega)]; rw [eC38, va_up_ne _ _ (by omega)]; rw [hr33 y (by omega)]; rw [eC27, va_up_ne _ _ (by omega)]; rw [eC22, va_up_ne _ _ (by omega)]; rw [hr17 y (by omega)]; rw [eC11, va_up_ne _ _ (by omega)]; rw [eC6, va_up_ne _ _ (by omega)]; rw [hr4 y (by omega)]; rw [eC1, va_up_ne _ _ (by omega)]
  refine c_RB_init_loop 10 0 _ _ C68 (fun _ => none) (by omega) (by omega) (by omega) f72 f74 (fun j hj => absurd hj (Nat.not_lt_zero j)) (fun C9 co p1 p2 p3 p4 => ?_)
  have g1 : C9 1 = .inr (0, [.ref (2), .ref (5), .ref (14), .ref (23), .int (0), .ref (24), .null, .null]) := p1.trans f72
  have g2 : C9 2 = .inr (1, [.ref (3), .ref (4), .int (0), .int (0)]) := (p4 _ (by omega) (by omega)).trans f69
  have g3 : C9 3 = .inl (0, 600, .inl (fun _ => 0)) := (p4 _ (by omega) (by omega)).trans f70
  have g4 : C9 4 = .inl (0, 4, .inl (fun _ => 0)) := (p4 _ (by omega) (by omega)).trans f71
  have g23 : C9 23 = .inl (3, 20, .inr (.inr (.inr (.inr (fun _ => none))))) := (p4 _ (by omega) (by omega)).trans f73
  have N5 : pr_M C9 5 pr_T0 0 := pr_M_of M5 (fun y a1 a2 => p4 _ (by omega) (by omega))
  have N14 : pr_M C9 14 pr_T0 0 := pr_M_of M14 (fun y a1 a2 => p4 _ (by omega) (by omega))
  have hfr1 : ∀ y, y < 1 → C9 y = C y := fun y a1 => (p4 y (by omega) (by omega)).trans (hfr0 y a1)
  refine gj_aload_n d_RB_init_88 rfl ?_
  refine gj_kb (v := 10) d_RB_init_89 (by decide) ?_
  refine gj_newI (kA := 0) (len := 10) d_RB_init_91 gw_64 rfl (by decide) (by decide) (by omega) (by omega) (by omega) ?_
  obtain ⟨C75, eC75⟩ : ∃ Z0, Z0 = va_up C9 (65) (.inl (0, 10, .inl (fun _ => 0))) := ⟨_, rfl⟩
  refine gj_mem eC75 ?_
  have f76 : C75 (1) = .inr (0, [.ref (2), .ref (5), .ref (14), .ref (23), .int (0), .ref (24), .null, .null]) := by rw [eC75, va_up_ne _ _ (by omega)]; exact g1
  have f77 : C75 (24) = .inl (4, 10, .inr (.inr (.inr (.inr co)))) := by rw [eC75, va_up_ne _ _ (by omega)]; exact p2
  have f78 : C75 (2) = .inr (1, [.ref (3), .ref (4), .int (0), .int (0)]) := by rw [eC75, va_up_ne _ _ (by omega)]; exact g2
  have f79 : C75 (3) = .inl (0, 600, .inl (fun _ => 0)) := by rw [eC75, va_up_ne _ _ (by omega)]; exact g3
  have f80 : C75 (4) = .inl (0, 4, .inl (fun _ => 0)) := by rw [eC75, va_up_ne _ _ (by omega)]; exact g4
  have f81 : C75 (23) = .inl (3, 20, .inr (.inr (.inr (.inr (fun _ => none))))) := by rw [eC75, va_up_ne _ _ (by omega)]; exact g23
  have f82 : C75 (65) = .inl (0, 10, .inl (fun _ => 0)) := by rw [eC75]; exact va_up_self _ _ _
  refine gj_putF d_RB_init_93 gp_RB_45 rfl f76 (Nat.le_of_ble_eq_true rfl) (fun _ => rfl) (fun _ => rfl) ?_
  obtain ⟨C83, eC83⟩ : ∃ Z0, Z0 = va_up C75 (1) (.inr (0, [.ref (2), .ref (5), .ref (14), .ref (23), .int (0), .ref (24), .ref (65), .null])) := ⟨_, rfl⟩
  refine gj_mem eC83 ?_
  have f84 : C83 (1) = .inr (0, [.ref (2), .ref (5), .ref (14), .ref (23), .int (0), .ref (24), .ref (65), .null]) := by rw [eC83]; exact va_up_self _ _ _
  have f85 : C83 (24) = .inl (4, 10, .inr (.inr (.inr (.inr co)))) := by rw [eC83, va_up_ne _ _ (by omega)]; exact f77
  have f86 : C83 (2) = .inr (1, [.ref (3), .ref (4), .int (0), .int (0)]) := by rw [eC83, va_up_ne _ _ (by omega)]; exact f78
  have f87 : C83 (3) = .inl (0, 600, .inl (fun _ => 0)) := by rw [eC83, va_up_ne _ _ (by omega)]; exact f79
  have f88 : C83 (4) = .inl (0, 4, .inl (fun _ => 0)) := by rw [eC83, va_up_ne _ _ (by omega)]; exact f80
  have f89 : C83 (23) = .inl (3, 20, .inr (.inr (.inr (.inr (fun _ => none))))) := by rw [eC83, va_up_ne _ _ (by omega)]; exact f81
  have f90 : C83 (65) = .inl (0, 10, .inl (fun _ => 0)) := by rw [eC83, va_up_ne _ _ (by omega)]; exact f82
  refine gj_aload_n d_RB_init_96 rfl ?_
  refine gj_new d_RB_init_97 gn_RB_36 (by omega) (by omega) ?_
  obtain ⟨C91, eC91⟩ : ∃ Z0, Z0 = va_up C83 (66) (.inr (3, [.null, .null, .null, .int (0)])) := ⟨_, rfl⟩
  refine gj_mem eC91 ?_
  have f92 : C91 (1) = .inr (0, [.ref (2), .ref (5), .ref (14), .ref (23), .int (0), .ref (24), .ref (65), .null]) := by rw [eC91, va_up_ne _ _ (by omega)]; exact f84
  have f93 : C91 (24) = .inl (4, 10, .inr (.inr (.inr (.inr co)))) := by rw [eC91, va_up_ne _ _ (by omega)]; exact f85
  have f94 : C91 (2) = .inr (1, [.ref (3), .ref (4), .int (0), .int (0)]) := by rw [eC91, va_up_ne _ _ (by omega)]; exact f86
  have f95 : C91 (3) = .inl (0, 600, .inl (fun _ => 0)) := by rw [eC91, va_up_ne _ _ (by omega)]; exact f87
  have f96 : C91 (4) = .inl (0, 4, .inl (fun _ => 0)) := by rw [eC91, va_up_ne _ _ (by omega)]; exact f88
  have f97 : C91 (23) = .inl (3, 20, .inr (.inr (.inr (.inr (fun _ => none))))) := by rw [eC91, va_up_ne _ _ (by omega)]; exact f89
  have f98 : C91 (65) = .inl (0, 10, .inl (fun _ => 0)) := by rw [eC91, va_up_ne _ _ (by omega)]; exact f90
  have f99 : C91 (66) = .inr (3, [.null, .null, .null, .int (0)]) := by rw [eC91]; exact va_up_self _ _ _
  refine gj_dup d_RB_init_100 rfl ?_
  refine gj_kb (v := 8) d_RB_init_101 (by decide) ?_
  refine gj_topv (v := .int (nI 8)) rfl ?_
  refine gj_callI (x := 66) (as := [.int (nI 8)]) (rest := [.ref (66), .ref (1)]) (K1 := 3) (N1 := (3 * 8)) d_RB_init_103 mo_Ro_init rfl rfl rfl gw_115 gw_113 gw_114 pl_Ro_init (Nat.le_of_ble_eq_true rfl) (Nat.le_of_ble_eq_true rfl) (by omega) (by omega) (c_Ro_init f99 (by omega) (Nat.le_refl 3) (Nat.le_refl _)) (fun E n' C' _ h => by obtain ⟨hv, -⟩ := h; exact nomatch hv) (fun v100 n100 C100 _ h100 => ?_)
  obtain ⟨hv100, hn100, u100_0, u100_1, u100_2, u100_3, hr100⟩ := h100
  dsimp only at hv100 hn100 hr100 u100_0 u100_1 u100_2 u100_3
  cases hv100; cases hn100
  have f101 : C100 (1) = .inr (0, [.ref (2), .ref (5), .ref (14), .ref (23), .int (0), .ref (24), .ref (65), .null]) := (hr100 _ (by omega)).trans f92
  have f102 : C100 (24) = .inl (4, 10, .inr (.inr (.inr (.inr co)))) := (hr100 _ (by omega)).trans f93
  have f103 : C100 (2) = .inr (1, [.ref (3), .ref (4), .int (0), .int (0)]) := (hr100 _ (by omega)).trans f94
  have f104 : C100 (3) = .inl (0, 600, .inl (fun _ => 0)) := (hr100 _ (by omega)).trans f95
  have f105 : C100 (4) = .inl (0, 4, .inl (fun _ => 0)) := (hr100 _ (by omega)).trans f96
  have f106 : C100 (23) = .inl (3, 20, .inr (.inr (.inr (.inr (fun _ => none))))) := (hr100 _ (by omega)).trans f97
  have f107 : C100 (65) = .inl (0, 10, .inl (fun _ => 0)) := (hr100 _ (by omega)).trans f98
  refine gj_putF d_RB_init_106 gp_RB_49 rfl f101 (Nat.le_of_ble_eq_true rfl) (fun _ => rfl) (fun _ => rfl) ?_
  obtain ⟨C108, eC108⟩ : ∃ Z0, Z0 = va_up C100 (1) (.inr (0, [.ref (2), .ref (5), .ref (14), .ref (23), .int (0), .ref (24), .ref (65), .ref (66)])) := ⟨_, rfl⟩
  refine gj_mem eC108 ?_
  have f109 : C108 (66) = .inr (3, [.ref (67), .ref (68), .ref (69), .int (0)]) := by rw [eC108, va_up_ne _ _ (by omega)]; exact u100_0
  have f110 : C108 (67) = .inl (0, 8, .inl (fun _ => 0)) := by rw [eC108, va_up_ne _ _ (by omega)]; exact u100_1
  have f111 : C108 (68) = .inl (0, 8, .inl (fun _ => 0)) := by rw [eC108, va_up_ne _ _ (by omega)]; exact u100_2
  have f112 : C108 (69) = .inl (0, 8, .inl (fun _ => 0)) := by rw [eC108, va_up_ne _ _ (by omega)]; exact u100_3
  have f113 : C108 (1) = .inr (0, [.ref (2), .ref (5), .ref (14), .ref (23), .int (0), .ref (24), .ref (65), .ref (66)]) := by rw [eC108]; exact va_up_self _ _ _
  have f114 : C108 (24) = .inl (4, 10, .inr (.inr (.inr (.inr co)))) := by rw [eC108, va_up_ne _ _ (by omega)]; exact f102
  have f115 : C108 (2) = .inr (1, [.ref (3), .ref (4), .int (0), .int (0)]) := by rw [eC108, va_up_ne _ _ (by omega)]; exact f103
  have f116 : C108 (3) = .inl (0, 600, .inl (fun _ => 0)) := by rw [eC108, va_up_ne _ _ (by omega)]; exact f104
  have f117 : C108 (4) = .inl (0, 4, .inl (fun _ => 0)) := by rw [eC108, va_up_ne _ _ (by omega)]; exact f105
  have f118 : C108 (23) = .inl (3, 20, .inr (.inr (.inr (.inr (fun _ => none))))) := by rw [eC108, va_up_ne _ _ (by omega)]; exact f106
  have f119 : C108 (65) = .inl (0, 10, .inl (fun _ => 0)) := by rw [eC108, va_up_ne _ _ (by omega)]; exact f107
  refine gj_vret rfl (by omega) (by omega) d_RB_init_109 ?_
  have hf9 : ∀ y, y ≠ 1 → y < 65 → C108 y = C9 y := fun y a0 a1 => by show C108 y = C9 y; rw [eC108, va_up_ne _ _ (by omega)]; rw [hr100 y (by omega)]; rw [eC91, va_up_ne _ _ (by omega)]; rw [eC83, va_up_ne _ _ (by omega)]; rw [eC75, va_up_ne _ _ (by omega)]
  exact ⟨rfl, rfl, f113, f115, f116, f117, f118, f119, pr_M_of N5 (fun y _ _ => hf9 y (by omega) (by omega)), pr_M_of N14 (fun y _ _ => hf9 y (by omega) (by omega)), ⟨co, f114, fun j hj => ⟨(p3 j hj).1, pr_R_of (p3 j hj).2 (fun y _ _ => hf9 y (by omega) (by omega))⟩⟩, ⟨f109, f110, f111, f112⟩, fun y a1 => (hf9 y (by omega) (by omega)).trans (hfr1 y a1)⟩
