theorem pt_nd_le (f : Nat → Int32) (ln : Nat) : ∀ m q, pt_nd f ln q m ≤ m
  | 0, _ => Nat.le_refl 0
  | m + 1, q => by
    unfold pt_nd
    split
    · have := pt_nd_le f ln m (q + 1)
      omega
    · omega
/-- where a number that begins at p with its blank ends; and the number, -1 if it is none -/
noncomputable def pt_np (f : Nat → Int32) (ln p : Nat) : Nat := if pt_at f ln p = 32 then p + 1 + pt_nd f ln (p + 1) 9 else p
noncomputable def pt_num (f : Nat → Int32) (ln p : Nat) : Int32 := if pt_at f ln p = 32 then (if pt_nd f ln (p + 1) 9 = 0 ∨ (1 < pt_nd f ln (p + 1) 9 ∧ pt_at f ln (p + 1) = 48) then -1 else pt_vl f ln (p + 1) 0 9) else -1
theorem pt_num_no {f : Nat → Int32} {ln p : Nat} (h : ¬ pt_at f ln p = 32) : pt_num f ln p = -1 := if_neg h
theorem pt_num_a {f : Nat → Int32} {ln p k2 : Nat} (h : pt_at f ln p = 32) (e1 : k2 = 0 + pt_nd f ln (p + 1 + 0) 9) (h0 : nI k2 = 0) : -1 = pt_num f ln p := by
  have hl := pt_nd_le f ln 9 (p + 1)
  have e2 : k2 = pt_nd f ln (p + 1) 9 := by rw [e1, Nat.zero_add, Nat.add_zero]
  have h1 : k2 = 0 := (nI_eq (by omega) (by omega)).mp (h0.trans nI_0.symm)
  unfold pt_num
  rw [if_pos h, if_pos (Or.inl (by omega))]
theorem pt_num_b {f : Nat → Int32} {ln p k2 : Nat} (h : pt_at f ln p = 32) (e1 : k2 = 0 + pt_nd f ln (p + 1 + 0) 9) (h1 : ¬ nI k2 ≤ 1) (h2 : pt_at f ln (p + 1) = 48) : -1 = pt_num f ln p := by
  have hl := pt_nd_le f ln 9 (p + 1)
  have e2 : k2 = pt_nd f ln (p + 1) 9 := by rw [e1, Nat.zero_add, Nat.add_zero]
  have h3 : 1 < k2 := Nat.lt_of_not_le (fun q => h1 (nI_le (b := 1) q (by decide)))
  unfold pt_num
  rw [if_pos h, if_pos (Or.inr ⟨by omega, h2⟩)]
theorem pt_num_c {f : Nat → Int32} {ln p k2 : Nat} {v2 : Int32} (h : pt_at f ln p = 32) (e1 : k2 = 0 + pt_nd f ln (p + 1 + 0) 9) (ev : v2 = pt_vl f ln (p + 1 + 0) 0 9) (h0 : ¬ nI k2 = 0) (h2 : nI k2 ≤ 1 ∨ ¬ pt_at f ln (p + 1) = 48) : v2 = pt_num f ln p := by
  have hl := pt_nd_le f ln 9 (p + 1)
  have e2 : k2 = pt_nd f ln (p + 1) 9 := by rw [e1, Nat.zero_add, Nat.add_zero]
  have h1 : k2 ≠ 0 := fun q => h0 (by rw [q]; exact nI_0)
  unfold pt_num
  rw [if_pos h, if_neg, ev, Nat.add_zero]
  rintro (q | ⟨q1, q2⟩)
  · omega
  · rcases h2 with h2 | h2
    · exact nI_ge (a := 1) (b := k2) (by omega) (by omega) h2
    · exact h2 q2
theorem pt_np_y {f : Nat → Int32} {ln p k2 : Nat} (h : pt_at f ln p = 32) (e1 : k2 = 0 + pt_nd f ln (p + 1 + 0) 9) : p + 1 + k2 = pt_np f ln p := by
  unfold pt_np
  rw [if_pos h, e1, Nat.zero_add, Nat.add_zero]
def gj_iv (v : Int32) : Option Value ⊕ String := .inl (some (.int v))
set_option maxHeartbeats 1000000 in
/-- Text.takeNumber -/
theorem c_Tx_takeNumber {d K N n x ln p : Nat} {C : Nat → va_E} {f : Nat → Int32} (hx : C x = .inr (1, [.ref (x + 1), .ref (x + 2), .int (nI ln), .int (nI p)])) (hs : C (x + 1) = .inl (0, 600, .inl f)) (h6 : ln ≤ 600) (hp : p ≤ 700) : gj_G md_Tx_takeNumber (d + 1) K N 0 0 0 [(0, .ref x)] [] n C (fun r => r.1 = gj_iv (pt_num f ln p) ∧ r.2.1 = n ∧ r.2.2 x = .inr (1, [.ref (x + 1), .ref (x + 2), .int (nI ln), .int (nI (pt_np f ln p))]) ∧ ∀ y, y ≠ x → r.2.2 y = C y) := by
  refine gj_aload_n d_Tx_takeNumber_0 rfl ?_
  refine gj_aload_n d_Tx_takeNumber_1 rfl ?_
  refine gj_get d_Tx_takeNumber_2 gf_Tx_22 hx rfl ?_
  refine gj_callV (as := [.int (nI p)]) (rest := []) (K1 := 0) (N1 := 0) d_Tx_takeNumber_5 mo_Tx_at gw_174 gw_175 gw_176 hx rfl pl_Tx_at (Nat.le_of_ble_eq_true rfl) (Nat.le_of_ble_eq_true rfl) (Nat.zero_le _) (Nat.zero_le _) (c_Tx_at hx hs h6 (p) (by omega)) (fun E n' C' _ h => by cases h) (fun v n' C' _ h => ?_)
  cases h
  refine gj_kb (v := 32) d_Tx_takeNumber_8 (by decide) ?_
  refine gj_icmp_eq (tgt := 15) d_Tx_takeNumber_10 (by decide) (fun h10 => ?_) (fun h10 => ?_)
  · refine gj_aload_n d_Tx_takeNumber_15 rfl ?_
    refine gj_get d_Tx_takeNumber_16 gf_Tx_22 hx rfl ?_
    refine gj_kc (v := 1) d_Tx_takeNumber_19 (by decide) ?_
    refine gj_iadd d_Tx_takeNumber_20 ?_
    refine gj_top (y := nI (p + 1)) (nI_1 p) ?_
    refine gj_istore_n d_Tx_takeNumber_21 (by decide) ?_
    refine gj_kc (v := 0) d_Tx_takeNumber_22 (by decide) ?_
    refine gj_istore_n d_Tx_takeNumber_23 (by decide) ?_
    refine gj_kc (v := 0) d_Tx_takeNumber_24 (by decide) ?_
    refine gj_istore_n d_Tx_takeNumber_25 (by decide) ?_
    refine gj_less (lc' := [(0, .ref (x)), (1, .int (nI (p + 1))), (2, .int 0), (3, .int (nI 0))]) ⟨rfl, rfl, rfl, rfl, trivial⟩ ?_
    refine c_Tx_takeNumber_loop hx hs h6 hp 9 0 0 rfl (fun k2 v2 e1 e2 => ?_)
    have hk9 := pt_nd_le f ln 9 (p + 1 + 0)
    refine gj_aload_n d_Tx_takeNumber_67 rfl ?_
    refine gj_iload_n d_Tx_takeNumber_68 rfl ?_
    refine gj_iload_n d_Tx_takeNumber_69 rfl ?_
    refine gj_iadd d_Tx_takeNumber_70 ?_
    refine gj_top (y := nI (p + 1 + k2)) (nI_add _ _) ?_
    refine gj_put d_Tx_takeNumber_71 gp_Tx_22 hx (Nat.le_of_ble_eq_true rfl) (fun _ => rfl) (fun _ => rfl) ?_
    obtain ⟨C1, eC1⟩ : ∃ z, z = va_up C (x) (.inr (1, [.ref (x + 1), .ref (x + 2), .int (nI ln), .int (nI (p + 1 + k2))])) := ⟨_, rfl⟩
    refine gj_mem eC1 ?_
    have f2 : C1 (x) = .inr (1, [.ref (x + 1), .ref (x + 2), .int (nI ln), .int (nI (p + 1 + k2))]) := by rw [eC1]; exact va_up_self _ _ _
    have f3 : C1 (x + 1) = .inl (0, 600, .inl f) := by rw [eC1, va_up_ne _ _ (by omega)]; exact hs
    refine gj_iload_n d_Tx_takeNumber_74 rfl ?_
    refine gj_kc (v := 1) d_Tx_takeNumber_75 (by decide) ?_
    refine gj_icmp_le (tgt := 93) d_Tx_takeNumber_76 (by decide) (fun h76 => ?_) (fun h76 => ?_)
    · refine gj_kc (v := 0) d_Tx_takeNumber_93 (by decide) ?_
      refine gj_istore d_Tx_takeNumber_94 (by decide) ?_
      refine gj_iload_n d_Tx_takeNumber_96 rfl ?_
      refine gj_if_eq (tgt := 105) d_Tx_takeNumber_97 (by decide) (fun h97 => ?_) (fun h97 => ?_)
      · refine gj_kc (v := (-1)) d_Tx_takeNumber_105 (by decide) ?_
        refine gj_goto (tgt := 110) d_Tx_takeNumber_106 (by decide) ?_
        refine gj_iret rfl (Nat.zero_le _) (Nat.zero_le _) d_Tx_takeNumber_110 ?_
        exact ⟨congrArg gj_iv (pt_num_a h10 e1 h97), rfl, by rw [← pt_np_y h10 e1]; exact f2, fun y hy => by rw [eC1]; exact va_up_ne _ _ hy⟩
      · refine gj_iload d_Tx_takeNumber_100 rfl ?_
        refine gj_if_eq (tgt := 109) d_Tx_takeNumber_102 (by decide) (fun h102 => ?_) (fun h102 => absurd rfl h102)
        refine gj_iload_n d_Tx_takeNumber_109 rfl ?_
        refine gj_iret rfl (Nat.zero_le _) (Nat.zero_le _) d_Tx_takeNumber_110 ?_
        exact ⟨congrArg gj_iv (pt_num_c h10 e1 e2 h97 (by first | exact Or.inl h76 | exact Or.inr h86)), rfl, by rw [← pt_np_y h10 e1]; exact f2, fun y hy => by rw [eC1]; exact va_up_ne _ _ hy⟩
    · refine gj_aload_n d_Tx_takeNumber_79 rfl ?_
      refine gj_iload_n d_Tx_takeNumber_80 rfl ?_
      refine gj_callV (as := [.int (nI (p + 1))]) (rest := []) (K1 := 0) (N1 := 0) d_Tx_takeNumber_81 mo_Tx_at gw_174 gw_175 gw_176 f2 rfl pl_Tx_at (Nat.le_of_ble_eq_true rfl) (Nat.le_of_ble_eq_true rfl) (Nat.zero_le _) (Nat.zero_le _) (c_Tx_at f2 f3 h6 (p + 1) (by omega)) (fun E n' C' _ h => by cases h) (fun v n' C' _ h => ?_)
      cases h
      refine gj_kb (v := 48) d_Tx_takeNumber_84 (by decide) ?_
      refine gj_icmp_ne (tgt := 93) d_Tx_takeNumber_86 (by decide) (fun h86 => ?_) (fun h86 => ?_)
      · refine gj_kc (v := 0) d_Tx_takeNumber_93 (by decide) ?_
        refine gj_istore d_Tx_takeNumber_94 (by decide) ?_
        refine gj_iload_n d_Tx_takeNumber_96 rfl ?_
        refine gj_if_eq (tgt := 105) d_Tx_takeNumber_97 (by decide) (fun h97 => ?_) (fun h97 => ?_)
        · refine gj_kc (v := (-1)) d_Tx_takeNumber_105 (by decide) ?_
          refine gj_goto (tgt := 110) d_Tx_takeNumber_106 (by decide) ?_
          refine gj_iret rfl (Nat.zero_le _) (Nat.zero_le _) d_Tx_takeNumber_110 ?_
          exact ⟨congrArg gj_iv (pt_num_a h10 e1 h97), rfl, by rw [← pt_np_y h10 e1]; exact f2, fun y hy => by rw [eC1]; exact va_up_ne _ _ hy⟩
        · refine gj_iload d_Tx_takeNumber_100 rfl ?_
          refine gj_if_eq (tgt := 109) d_Tx_takeNumber_102 (by decide) (fun h102 => ?_) (fun h102 => absurd rfl h102)
          refine gj_iload_n d_Tx_takeNumber_109 rfl ?_
          refine gj_iret rfl (Nat.zero_le _) (Nat.zero_le _) d_Tx_takeNumber_110 ?_
          exact ⟨congrArg gj_iv (pt_num_c h10 e1 e2 h97 (by first | exact Or.inl h76 | exact Or.inr h86)), rfl, by rw [← pt_np_y h10 e1]; exact f2, fun y hy => by rw [eC1]; exact va_up_ne _ _ hy⟩
      · refine gj_kc (v := 1) d_Tx_takeNumber_89 (by decide) ?_
        refine gj_goto (tgt := 94) d_Tx_takeNumber_90 (by decide) ?_
        refine gj_istore d_Tx_takeNumber_94 (by decide) ?_
        refine gj_iload_n d_Tx_takeNumber_96 rfl ?_
        refine gj_if_eq (tgt := 105) d_Tx_takeNumber_97 (by decide) (fun h97 => ?_) (fun h97 => ?_)
        · refine gj_kc (v := (-1)) d_Tx_takeNumber_105 (by decide) ?_
          refine gj_goto (tgt := 110) d_Tx_takeNumber_106 (by decide) ?_
          refine gj_iret rfl (Nat.zero_le _) (Nat.zero_le _) d_Tx_takeNumber_110 ?_
          exact ⟨congrArg gj_iv (pt_num_a h10 e1 h97), rfl, by rw [← pt_np_y h10 e1]; exact f2, fun y hy => by rw [eC1]; exact va_up_ne _ _ hy⟩
        · refine gj_iload d_Tx_takeNumber_100 rfl ?_
          refine gj_if_eq (tgt := 109) d_Tx_takeNumber_102 (by decide) (fun h102 => absurd h102 (by decide)) (fun h102 => ?_)
          refine gj_kc (v := (-1)) d_Tx_takeNumber_105 (by decide) ?_
          refine gj_goto (tgt := 110) d_Tx_takeNumber_106 (by decide) ?_
          refine gj_iret rfl (Nat.zero_le _) (Nat.zero_le _) d_Tx_takeNumber_110 ?_
          exact ⟨congrArg gj_iv (pt_num_b h10 e1 h76 h86), rfl, by rw [← pt_np_y h10 e1]; exact f2, fun y hy => by rw [eC1]; exact va_up_ne _ _ hy⟩
  · refine gj_kc (v := (-1)) d_Tx_takeNumber_13 (by decide) ?_
    refine gj_iret rfl (Nat.zero_le _) (Nat.zero_le _) d_Tx_takeNumber_14 ?_
    exact ⟨congrArg gj_iv (pt_num_no h10).symm, rfl, by unfold pt_np; rw [if_neg h10]; exact hx, fun y hy => rfl⟩
