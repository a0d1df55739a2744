def pt_nbN (c : Int32) : Nat := if c = 82 then 4 else if c = 70 then 3 else if c = 68 ∨ c = 77 then 2 else 0
theorem pt_nb_eq (c : Int32) : pt_nb c = nI (pt_nbN c) := by
  unfold pt_nb pt_nbN
  split
  · rfl
  · split
    · rfl
    · split <;> rfl
theorem pt_nbN_le (c : Int32) : pt_nbN c ≤ 4 := by
  unfold pt_nbN
  split
  · omega
  · split
    · omega
    · split <;> omega
theorem pt_run_le {f : Nat → Int32} {ln : Nat} (h6 : ln ≤ 600) : ∀ (m i p : Nat) (g : Nat → Int32), p ≤ 700 → (pt_run f ln m i p g).2.1 ≤ 700
  | 0, _, _, _, hp => hp
  | m + 1, i, p, g, hp => by
    unfold pt_run
    split
    · exact pt_np_le h6 hp
    · exact pt_run_le h6 m (i + 1) _ _ (pt_np_le h6 hp)
/-- the numbers of the line that begins at q -/
noncomputable def pt_lr (f : Nat → Int32) (ln q : Nat) (g : Nat → Int32) : Bool × Nat × (Nat → Int32) := pt_run f ln (pt_nbN (pt_at f ln q)) 0 (q + 1) g
/-- Text.behindLine: its answer, the place, the row -/
noncomputable def pt_blv (f : Nat → Int32) (ln q : Nat) (g : Nat → Int32) : Int32 := if pt_nbN (pt_at f ln q) = 0 then -1 else if (pt_lr f ln q g).1 = true ∧ pt_at f ln (pt_lr f ln q g).2.1 = 10 then nI ((pt_lr f ln q g).2.1 + 1) else -1
noncomputable def pt_blp (f : Nat → Int32) (ln q : Nat) (g : Nat → Int32) (pl : Int32) : Int32 := if pt_nbN (pt_at f ln q) = 0 then pl else nI (pt_lr f ln q g).2.1
noncomputable def pt_blg (f : Nat → Int32) (ln q : Nat) (g : Nat → Int32) : Nat → Int32 := if pt_nbN (pt_at f ln q) = 0 then g else (pt_lr f ln q g).2.2
set_option maxHeartbeats 1000000 in
/-- Text.behindLine -/
theorem c_Tx_behindLine {d K N n x ln q : Nat} {C : Nat → va_E} {f g : Nat → Int32} {pl : Int32} (hx : C x = .inr (1, [.ref (x + 1), .ref (x + 2), .int (nI ln), .int pl])) (hs : C (x + 1) = .inl (0, 600, .inl f)) (hn : C (x + 2) = .inl (0, 4, .inl g)) (h6 : ln ≤ 600) (hq : q ≤ 600) : gj_G md_Tx_behindLine (d + 2) K N 0 0 0 [(0, .ref x), (1, .int (nI q))] [] n C
    (fun r => r.1 = gj_iv (pt_blv f ln q g) ∧ r.2.1 = n ∧ r.2.2 x = .inr (1, [.ref (x + 1), .ref (x + 2), .int (nI ln), .int (pt_blp f ln q g pl)]) ∧ r.2.2 (x + 2) = .inl (0, 4, .inl (pt_blg f ln q g)) ∧ ∀ y, y ≠ x → y ≠ x + 2 → r.2.2 y = C y) := by
  refine gj_aload_n d_Tx_behindLine_0 rfl ?_
  refine gj_iload_n d_Tx_behindLine_1 rfl ?_
  refine gj_callV (as := [.int (nI q)]) (rest := []) (K1 := 0) (N1 := 0) d_Tx_behindLine_2 mo_Tx_at gw_174 gw_175 gw_176 hx rfl pl_Tx_at (Nat.le_of_ble_eq_true rfl) (Nat.le_of_ble_eq_true rfl) (Nat.zero_le _) (Nat.zero_le _) (c_Tx_at hx hs h6 (q) (by omega)) (fun E n' C' _ h => by cases h) (fun v n' C' _ h => ?_)
  cases h
  refine gj_callS (as := [.int (pt_at f ln (q))]) (rest := []) (K1 := 0) (N1 := 0) d_Tx_behindLine_5 mo_Tx_numbersBehind gw_178 gw_179 gw_21 pl_Tx_numbersBehind (Nat.le_of_ble_eq_true rfl) (Nat.le_of_ble_eq_true rfl) (Nat.zero_le _) (Nat.zero_le _) (c_Tx_numbersBehind (pt_at f ln (q))) (fun E n' C' _ h => by cases h) (fun v n' C' _ h => ?_)
  cases h
  refine gj_top (y := nI (pt_nbN (pt_at f ln q))) (pt_nb_eq _) ?_
  have hnb := pt_nbN_le (pt_at f ln q)
  refine gj_istore_n d_Tx_behindLine_8 (by decide) ?_
  refine gj_iload_n d_Tx_behindLine_9 rfl ?_
  refine gj_if_ne (tgt := 15) d_Tx_behindLine_10 (by decide) (fun h10 => ?_) (fun h10 => ?_)
  · refine gj_aload_n d_Tx_behindLine_15 rfl ?_
    refine gj_iload_n d_Tx_behindLine_16 rfl ?_
    refine gj_kc (v := 1) d_Tx_behindLine_17 (by decide) ?_
    refine gj_iadd d_Tx_behindLine_18 ?_
    refine gj_top (y := nI (q + 1)) (nI_1 q) ?_
    refine gj_put d_Tx_behindLine_19 gp_Tx_22 hx (Nat.le_of_ble_eq_true rfl) (fun _ => rfl) (fun _ => rfl) ?_
    obtain ⟨C1, eC1⟩ : ∃ z, z = va_up C (x) (.inr (1, [.ref (x + 1), .ref (x + 2), .int (nI ln), .int (nI (q + 1))])) := ⟨_, rfl⟩
    refine gj_mem eC1 ?_
    have f2 : C1 (x) = .inr (1, [.ref (x + 1), .ref (x + 2), .int (nI ln), .int (nI (q + 1))]) := by rw [eC1]; exact va_up_self _ _ _
    have f3 : C1 (x + 1) = .inl (0, 600, .inl f) := by rw [eC1, va_up_ne _ _ (by omega)]; exact hs
    have f4 : C1 (x + 2) = .inl (0, 4, .inl g) := by rw [eC1, va_up_ne _ _ (by omega)]; exact hn
    refine gj_kc (v := 0) d_Tx_behindLine_22 (by decide) ?_
    refine gj_istore_n d_Tx_behindLine_23 (by decide) ?_
    have hz : ¬ pt_nbN (pt_at f ln q) = 0 := fun h => h10 (by rw [h]; exact nI_0)
    refine gj_less (lc' := [(0, .ref (x)), (1, .int (nI q)), (2, .int (nI (pt_nbN (pt_at f ln q)))), (3, .int (nI 0))]) ⟨rfl, rfl, rfl, rfl, trivial⟩ ?_
    refine c_Tx_behindLine_loop h6 hnb (pt_nbN (pt_at f ln q)) 0 (q + 1) g C1 (by omega) f2 f3 f4 (by omega) (fun C9 p2 g2 e0 e1 e2 e3 => ?_) (fun C9 p2 g2 e0 e1 e2 e3 => ?_)
    · have e4 : C9 (x + 1) = .inl (0, 600, .inl f) := (e3 _ (by omega) (by omega)).trans f3
      have e5 : pt_lr f ln q g = (true, p2, g2) := e0
      have e6 : p2 ≤ 700 := by have := pt_run_le (f := f) h6 (pt_nbN (pt_at f ln q)) 0 (q + 1) g (by omega); rw [e0] at this; exact this
      refine gj_aload_n d_Tx_behindLine_57 rfl ?_
      refine gj_aload_n d_Tx_behindLine_58 rfl ?_
      refine gj_get d_Tx_behindLine_59 gf_Tx_22 e1 rfl ?_
      refine gj_callV (as := [.int (nI p2)]) (rest := []) (K1 := 0) (N1 := 0) d_Tx_behindLine_62 mo_Tx_at gw_174 gw_175 gw_176 e1 rfl pl_Tx_at (Nat.le_of_ble_eq_true rfl) (Nat.le_of_ble_eq_true rfl) (Nat.zero_le _) (Nat.zero_le _) (c_Tx_at e1 e4 h6 (p2) (by omega)) (fun E n' C' _ h => by cases h) (fun v n' C' _ h => ?_)
      cases h
      refine gj_kb (v := 10) d_Tx_behindLine_65 (by decide) ?_
      refine gj_icmp_ne (tgt := 79) d_Tx_behindLine_67 (by decide) (fun h67 => ?_) (fun h67 => ?_)
      · refine gj_kc (v := (-1)) d_Tx_behindLine_79 (by decide) ?_
        refine gj_iret rfl (Nat.zero_le _) (Nat.zero_le _) d_Tx_behindLine_80 ?_
        exact ⟨congrArg gj_iv (by unfold pt_blv; rw [if_neg hz, e5]; exact (if_neg (fun h => h67 h.2)).symm), rfl, by unfold pt_blp; rw [if_neg hz, e5]; exact e1, by unfold pt_blg; rw [if_neg hz, e5]; exact e2, fun y h1 h2 => (e3 y h1 h2).trans (by rw [eC1]; exact va_up_ne _ _ h1)⟩
      · refine gj_aload_n d_Tx_behindLine_70 rfl ?_
        refine gj_get d_Tx_behindLine_71 gf_Tx_22 e1 rfl ?_
        refine gj_kc (v := 1) d_Tx_behindLine_74 (by decide) ?_
        refine gj_iadd d_Tx_behindLine_75 ?_
        refine gj_goto (tgt := 80) d_Tx_behindLine_76 (by decide) ?_
        refine gj_iret rfl (Nat.zero_le _) (Nat.zero_le _) d_Tx_behindLine_80 ?_
        exact ⟨congrArg gj_iv (by unfold pt_blv; rw [if_neg hz, e5, nI_1]; exact (if_pos ⟨rfl, h67⟩).symm), rfl, by unfold pt_blp; rw [if_neg hz, e5]; exact e1, by unfold pt_blg; rw [if_neg hz, e5]; exact e2, fun y h1 h2 => (e3 y h1 h2).trans (by rw [eC1]; exact va_up_ne _ _ h1)⟩
    · have e5 : pt_lr f ln q g = (false, p2, g2) := e0
      refine ⟨congrArg gj_iv ?_, rfl, ?_, ?_, fun y h1 h2 => (e3 y h1 h2).trans (by rw [eC1]; exact va_up_ne _ _ h1)⟩
      · unfold pt_blv; rw [if_neg hz, e5]; exact (if_neg (fun h => nomatch h.1)).symm
      · unfold pt_blp; rw [if_neg hz, e5]; exact e1
      · unfold pt_blg; rw [if_neg hz, e5]; exact e2
  · refine gj_kc (v := (-1)) d_Tx_behindLine_13 (by decide) ?_
    refine gj_iret rfl (Nat.zero_le _) (Nat.zero_le _) d_Tx_behindLine_14 ?_
    have hz : pt_nbN (pt_at f ln q) = 0 := (nI_eq (by omega) (by decide)).mp (h10.trans nI_0.symm)
    exact ⟨congrArg gj_iv (by unfold pt_blv; rw [if_pos hz]), rfl, by unfold pt_blp; rw [if_pos hz]; exact hx, by unfold pt_blg; rw [if_pos hz]; exact hn, fun _ _ _ => rfl⟩
