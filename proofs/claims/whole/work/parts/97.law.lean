/-! the law, from its entry -/
set_option maxHeartbeats 4000000 in
theorem c_La_law {L : Nat} {xs : Nat → Int32} {C : Nat → va_E} (hL : L ≤ 2560) (h0 : C 0 = .inl (999, L, .inl xs)) : gj_G md_La_law 9 601024 7293034 0 0 0 [(0, .ref 0)] [] 0 C (fun r => r.1 = gj_iv 1) := by
  refine gj_new d_La_law_0 gn_La_8 (by omega) (by omega) ?_
  refine gj_dup d_La_law_3 rfl ?_
  refine gj_callI (x := 1) (as := []) (rest := [.ref 1]) (K1 := 100) (N1 := 3000) d_La_law_4 mo_RB_init rfl rfl rfl gw_39 gw_37 gw_38 pl_RB_init (Nat.le_of_ble_eq_true rfl) (Nat.le_of_ble_eq_true rfl) (by omega) (by omega) (c_RB_init (d := 6) (va_up_self _ _ _) (Nat.le_refl _) (Nat.le_refl _)) (fun E n1 C1 _ h => by obtain ⟨hv, -⟩ := h; exact nomatch hv) (fun v1 n1 C1 _ h => ?_)
  obtain ⟨hv, hn, q1, q2, q3, q4, q5, q6, q7, q8, ⟨co, q9, q10⟩, q11, hq⟩ := h
  dsimp only at hv hn q1 q2 q3 q4 q5 q6 q7 q8 q9 q10 q11 hq
  cases hv
  subst hn
  have z1 : C1 0 = .inl (999, L, .inl xs) := (hq 0 (by omega)).trans ((va_up_ne _ _ (by omega)).trans h0)
  refine gj_astore_n d_La_law_7 (by decide) ?_
  refine gj_new d_La_law_8 gn_La_70 (by omega) (by omega) ?_
  refine gj_dup d_La_law_11 rfl ?_
  obtain ⟨C2, e2⟩ : ∃ Z0, Z0 = va_up C1 70 (.inr (5, [.int 0, .null, .int 0, .int 0, .null, .int 0, .null, .int 0, .int 0, .null, .null, .null, .null, .null, .null, .null, .null, .null, .null, .null, .int 0, .null, .null, .null, .null, .null, .null])) := ⟨_, rfl⟩
  refine gj_mem e2 ?_
  refine gj_callI (x := 70) (as := []) (rest := [.ref 70]) (K1 := 100) (N1 := 3000) d_La_law_12 mo_Mo_init rfl rfl rfl gw_594 gw_592 gw_593 pl_Mo_init (Nat.le_of_ble_eq_true rfl) (Nat.le_of_ble_eq_true rfl) (by omega) (by omega) (c_Mo_init (d := 8) (by rw [e2]; exact va_up_self _ _ _) (Nat.le_refl _) (Nat.le_refl _)) (fun E n1 C1 _ h => by obtain ⟨hv, -⟩ := h; exact nomatch hv) (fun v1 n1 C3 _ h => ?_)
  obtain ⟨hv, hn, w70, w71, w72, w73, w74, w75, w76, w77, w78, w79, w80, w81, w82, w83, w84, w85, w86, w87, w88, w89, w90, hw⟩ := h
  dsimp only at hv hn w70 w71 w72 w73 w74 w75 w76 w77 w78 w79 w80 w81 w82 w83 w84 w85 w86 w87 w88 w89 w90 hw
  cases hv
  subst hn
  have e3 : ∀ y, y < 70 → C3 y = C1 y := fun y hy => (hw y hy).trans (by rw [e2]; exact va_up_ne _ _ (by omega))
  refine gj_astore_n d_La_law_15 (by decide) ?_
  refine gj_kc (v := 1) d_La_law_16 (by decide) ?_
  refine gj_newL (kA := 1) (len := 1) d_La_law_17 gw_802 rfl (by decide) (by decide) (by omega) (by omega) (by omega) ?_
  refine gj_astore_n d_La_law_19 (by decide) ?_
  refine gj_kc (v := 0) d_La_law_20 (by decide) ?_
  refine gj_istore d_La_law_21 (by decide) ?_
  obtain ⟨C4, e4⟩ : ∃ Z0, Z0 = va_up C3 91 (.inl (1, 1, .inr (.inl (fun _ => 0)))) := ⟨_, rfl⟩
  refine gj_mem e4 ?_
  have F : ∀ y, y ≠ 91 → C4 y = C3 y := fun y hy => by rw [e4]; exact va_up_ne _ _ hy
  have E : ∀ y, y ≠ 91 → y < 70 → C4 y = C1 y := fun y hy hz => (F y hy).trans (e3 y hz)
  refine gj_less (lc' := [(0, .ref (0)), (1, .ref (1)), (2, .ref (70)), (3, .ref (91)), (4, .int (nI (5 * 0)))]) ⟨rfl, rfl, rfl, rfl, rfl, trivial⟩ ?_
  refine c_La_loop hL lw_every 600 0 _ _ _ C4 (by omega) (by omega) (by omega) (by omega) ?_ ((E 0 (by omega) (by omega)).trans z1)
  refine ⟨0, 0, 5, 14, 0, 0, 0, 0, (fun _ => 0), pr_T0, (fun _ => none), (fun _ _ => 0), (fun _ _ => 0), (fun _ _ => 0), (fun _ => 0), (fun _ => 0), (fun _ => 0), (fun _ => 0), (fun _ => 0), (fun _ => 0), (fun _ => 0), (fun _ => 0), (fun _ => 0), (fun _ => 0), (fun _ => 0), (fun _ => 0), (fun _ => 0), (fun _ => 0), (fun _ => 0), (fun _ => 0), ⟨Or.inl ⟨rfl, rfl⟩, (E _ (by omega) (by omega)).trans q1, ⟨0, (E _ (by omega) (by omega)).trans q2⟩, (E _ (by omega) (by omega)).trans q3, ⟨_, (E _ (by omega) (by omega)).trans q4⟩, pr_M_of q7 (fun y _ _ => E _ (by omega) (by omega)), ⟨_, _, pr_M_of q8 (fun y _ _ => E _ (by omega) (by omega))⟩, (E _ (by omega) (by omega)).trans q5, ⟨co, (E _ (by omega) (by omega)).trans q9, fun a ha => (q10 a ha).1⟩, (E _ (by omega) (by omega)).trans q6, fun a ha => pr_R_of (q10 a ha).2 (fun y _ _ => E _ (by omega) (by omega)), pr_R_of q11 (fun y _ _ => E _ (by omega) (by omega))⟩, ⟨⟨0, 0, (F _ (by omega)).trans w70⟩, (F _ (by omega)).trans w71, (F _ (by omega)).trans w72, ⟨_, (F _ (by omega)).trans w73⟩, (F _ (by omega)).trans w74, (F _ (by omega)).trans w75, (F _ (by omega)).trans w76, (F _ (by omega)).trans w77, (F _ (by omega)).trans w78, (F _ (by omega)).trans w79, (F _ (by omega)).trans w80, ⟨_, (F _ (by omega)).trans w81, fun a ha => rfl⟩, (F _ (by omega)).trans w82, (F _ (by omega)).trans w83, (F _ (by omega)).trans w84, (F _ (by omega)).trans w85, (F _ (by omega)).trans w86, (F _ (by omega)).trans w87, ⟨_, (F _ (by omega)).trans w88⟩, ⟨_, (F _ (by omega)).trans w89⟩, ⟨_, (F _ (by omega)).trans w90⟩⟩, fun j y h => (nomatch h), ?_, fun _ => 0, by rw [e4]; exact va_up_self _ _ _, rfl⟩
  exact ⟨⟨by omega, by omega, by omega, by omega, by omega⟩, ⟨pr_T0, ⟨rfl, fun a ha => ⟨if_pos ha, if_pos ha, if_pos ha, if_pos ha⟩⟩, rfl, fun k hk => absurd hk (Nat.not_lt_zero _)⟩, fun j => ⟨fun _ h => absurd h.1 (Nat.not_lt_zero _), fun _ => rfl⟩, fun i j y h => (nomatch h), fun j hj => absurd hj (Nat.not_lt_zero _), fun a ha => ⟨Nat.zero_le _, fun p hp => ⟨rfl, rfl, rfl⟩, fun p hp => absurd hp (Nat.not_lt_zero _)⟩, fun p hp => absurd hp (Nat.not_lt_zero _), fun a ha => rfl, fun j hj => rfl⟩
