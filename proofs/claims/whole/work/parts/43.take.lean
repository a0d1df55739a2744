/-! RateBreaks.Rates: a line is taken -/
abbrev pr_T : Type := (Nat → Int32) × (Nat → Int32) × (Nat → Int32) × (Nat → Int32) × (Nat → Int32) × (Nat → Int32) × (Nat → Int32) × (Nat → Int32) × Nat
/-- the cells of a Rates at x -/
def pr_M (C : Nat → va_E) (x : Nat) (T : pr_T) (li : Int32) : Prop := C x = .inr (2, [.ref (x + 1), .ref (x + 2), .ref (x + 3), .ref (x + 4), .ref (x + 5), .ref (x + 6), .ref (x + 7), .ref (x + 8), .int li, .int (nI T.2.2.2.2.2.2.2.2)]) ∧ C (x + 1) = .inl (0, 60, .inl T.1) ∧ C (x + 2) = .inl (0, 60, .inl T.2.1) ∧ C (x + 3) = .inl (0, 60, .inl T.2.2.1) ∧ C (x + 4) = .inl (0, 60, .inl T.2.2.2.1) ∧
  C (x + 5) = .inl (0, 10, .inl T.2.2.2.2.1) ∧ C (x + 6) = .inl (0, 10, .inl T.2.2.2.2.2.1) ∧ C (x + 7) = .inl (0, 10, .inl T.2.2.2.2.2.2.1) ∧ C (x + 8) = .inl (0, 10, .inl T.2.2.2.2.2.2.2.1)
/-- a line of letter L with the numbers j b c e may be taken -/
def pr_ok (L : Int32) (j : Nat) (b c e : Int32) (T : pr_T) : Prop :=
  (L = 82 ∧ j < 10 ∧ b < 10 ∧ c ≤ 100000 ∧ e ≤ 1000000 ∧ pr_hv T.1 T.2.2.1 (nI j * 10 + b) T.2.2.2.2.2.2.2.2 0 0 < c) ∨
  (L = 68 ∧ j < 10 ∧ T.2.2.2.2.1 j = -1 ∧ b ≤ 100000) ∨ (L = 77 ∧ j < 10 ∧ T.2.2.2.2.2.1 j = -1 ∧ b ≤ 1000000) ∨
  (L = 70 ∧ j < 10 ∧ 1 ≤ c ∧ T.2.2.2.2.2.2.2.1 j = -1 ∧ c ≤ 1000 ∧ T.2.2.2.2.2.2.1 j = -1 ∧ b ≤ c)
def pr_nx (L : Int32) (j : Nat) (b c e : Int32) : pr_T → pr_T
  | (la, ab, ut, ce, dv, mi, fu, fd, sp) => if L = 82 then (upd la sp (nI j * 10 + b), upd ab sp (pr_hv la ut (nI j * 10 + b) sp 0 0), upd ut sp c, upd ce sp e, dv, mi, fu, fd, sp + 1)
    else if L = 68 then (la, ab, ut, ce, upd dv j b, mi, fu, fd, sp) else if L = 77 then (la, ab, ut, ce, dv, upd mi j b, fu, fd, sp) else (la, ab, ut, ce, dv, mi, upd fu j b, upd fd j c, sp)
set_option maxHeartbeats 2000000 in
theorem c_Ra_takeStep {d K N n x li sp : Nat} {C : Nat → va_E} {la ab ut ce : Nat → Int32} (hx : C (x) = .inr (2, [.ref (x + 1), .ref (x + 2), .ref (x + 3), .ref (x + 4), .ref (x + 5), .ref (x + 6), .ref (x + 7), .ref (x + 8), .int (nI li), .int (nI sp)])) (hla : C (x + 1) = .inl (0, 60, .inl la)) (hab : C (x + 2) = .inl (0, 60, .inl ab)) (hut : C (x + 3) = .inl (0, 60, .inl ut)) (hce : C (x + 4) = .inl (0, 60, .inl ce)) {a b c e : Int32} (h60 : sp < 60) (ok : a < 10 ∧ b < 10 ∧ c ≤ 100000 ∧ e ≤ 1000000 ∧ pr_hv la ut (a * 10 + b) sp 0 0 < c) : gj_G md_Ra_takeStep (d + 1) K N 0 0 0 [(0, .ref (x)), (1, .int (a)), (2, .int (b)), (3, .int (c)), (4, .int (e))] [] n C (fun r => r.1 = gj_iv 1 ∧ r.2.1 = n ∧ r.2.2 x = .inr (2, [.ref (x + 1), .ref (x + 2), .ref (x + 3), .ref (x + 4), .ref (x + 5), .ref (x + 6), .ref (x + 7), .ref (x + 8), .int (nI li), .int (nI (sp + 1))]) ∧ r.2.2 (x + 1) = .inl (0, 60, .inl (upd la sp (a * 10 + b))) ∧ r.2.2 (x + 2) = .inl (0, 60, .inl (upd ab sp (pr_hv la ut (a * 10 + b) sp 0 0))) ∧ r.2.2 (x + 3) = .inl (0, 60, .inl (upd ut sp c)) ∧ r.2.2 (x + 4) = .inl (0, 60, .inl (upd ce sp e)) ∧ ∀ y, y ≠ x → y ≠ x + 1 → y ≠ x + 2 → y ≠ x + 3 → y ≠ x + 4 → r.2.2 y = C y) := by
  refine gj_iload_n d_Ra_takeStep_0 rfl ?_
  refine gj_kb (v := 10) d_Ra_takeStep_1 (by decide) ?_
  refine gj_icmp_ge (tgt := 25) d_Ra_takeStep_3 (by decide) (fun h3 => absurd h3 (Int32.not_le.mpr ok.1)) (fun h3 => ?_)
  refine gj_iload_n d_Ra_takeStep_6 rfl ?_
  refine gj_kb (v := 10) d_Ra_takeStep_7 (by decide) ?_
  refine gj_icmp_ge (tgt := 25) d_Ra_takeStep_9 (by decide) (fun h9 => absurd h9 (Int32.not_le.mpr ok.2.1)) (fun h9 => ?_)
  refine gj_iload_n d_Ra_takeStep_12 rfl ?_
  refine gj_ldc d_Ra_takeStep_13 gw_201 ?_
  refine gj_icmp_gt (tgt := 25) d_Ra_takeStep_15 (by decide) (fun h15 => absurd h15 (Int32.not_lt.mpr ok.2.2.1)) (fun h15 => ?_)
  refine gj_iload d_Ra_takeStep_18 rfl ?_
  refine gj_ldc d_Ra_takeStep_20 gw_202 ?_
  refine gj_icmp_le (tgt := 27) d_Ra_takeStep_22 (by decide) (fun h22 => ?_) (fun h22 => absurd (ok.2.2.2.1) h22)
  refine gj_iload_n d_Ra_takeStep_27 rfl ?_
  refine gj_iload_n d_Ra_takeStep_28 rfl ?_
  refine gj_callSN (as := [.int (a), .int (b)]) (rest := []) (K1 := 0) (N1 := 0) d_Ra_takeStep_29 mo_RB_laneOf gw_203 gw_204 gw_20 pl_RB_laneOf (Nat.le_of_ble_eq_true rfl) (Nat.le_of_ble_eq_true rfl) (Nat.zero_le _) (Nat.zero_le _) (c_RB_laneOf a b) (fun E n' C' _ h => by cases h) (fun v n' C' _ h => ?_)
  cases h
  refine gj_istore d_Ra_takeStep_32 (by decide) ?_
  refine gj_aload_n d_Ra_takeStep_34 rfl ?_
  refine gj_iload d_Ra_takeStep_35 rfl ?_
  refine gj_callV (as := [.int (a * 10 + b)]) (rest := []) (K1 := 0) (N1 := 0) d_Ra_takeStep_37 mo_Ra_heaviest gw_206 gw_208 gw_4 hx rfl pl_Ra_heaviest (Nat.le_of_ble_eq_true rfl) (Nat.le_of_ble_eq_true rfl) (Nat.zero_le _) (Nat.zero_le _) (c_Ra_heaviest hx hla hut (by omega)) (fun E n' C' _ h => by cases h) (fun v n' C' _ h => ?_)
  cases h
  refine gj_istore d_Ra_takeStep_40 (by decide) ?_
  refine gj_iload_n d_Ra_takeStep_42 rfl ?_
  refine gj_iload d_Ra_takeStep_43 rfl ?_
  refine gj_icmp_le (tgt := 57) d_Ra_takeStep_45 (by decide) (fun h45 => absurd h45 (Int32.not_le.mpr ok.2.2.2.2)) (fun h45 => ?_)
  refine gj_aload_n d_Ra_takeStep_48 rfl ?_
  refine gj_get d_Ra_takeStep_49 gf_Ra_43 hx rfl ?_
  refine gj_kb (v := 60) d_Ra_takeStep_52 (by decide) ?_
  refine gj_icmp_lt (tgt := 59) d_Ra_takeStep_54 (by decide) (fun h54 => ?_) (fun h54 => by have m54 : ¬ (sp < 60) := fun q => h54 ((nI_ltI (a := sp) (b := 60) (by omega) (by omega)).mpr q); exact absurd (show sp < 60 from by omega) m54)
  have m54 : sp < 60 := (nI_ltI (a := sp) (b := 60) (by omega) (by omega)).mp h54
  refine gj_aload_n d_Ra_takeStep_59 rfl ?_
  refine gj_get d_Ra_takeStep_60 gf_Ra_9 hx rfl ?_
  refine gj_aload_n d_Ra_takeStep_63 rfl ?_
  refine gj_get d_Ra_takeStep_64 gf_Ra_43 hx rfl ?_
  refine gj_iload d_Ra_takeStep_67 rfl ?_
  refine gj_iast d_Ra_takeStep_69 hla rfl (vp_in_nI (by omega) (by decide)) ?_
  obtain ⟨C1, eC1⟩ : ∃ z, z = va_up C (x + 1) (.inl (0, 60, .inl (upd la (sp) (a * 10 + b)))) := ⟨_, rfl⟩
  refine gj_mem (eC1.trans (by rw [nI_clamp (by omega)])) ?_
  have f2 : C1 (x) = .inr (2, [.ref (x + 1), .ref (x + 2), .ref (x + 3), .ref (x + 4), .ref (x + 5), .ref (x + 6), .ref (x + 7), .ref (x + 8), .int (nI li), .int (nI sp)]) := by rw [eC1, va_up_ne _ _ (by omega)]; exact hx
  have f3 : C1 (x + 1) = .inl (0, 60, .inl (upd la (sp) (a * 10 + b))) := by rw [eC1]; exact va_up_self _ _ _
  have f4 : C1 (x + 2) = .inl (0, 60, .inl ab) := by rw [eC1, va_up_ne _ _ (by omega)]; exact hab
  have f5 : C1 (x + 3) = .inl (0, 60, .inl ut) := by rw [eC1, va_up_ne _ _ (by omega)]; exact hut
  have f6 : C1 (x + 4) = .inl (0, 60, .inl ce) := by rw [eC1, va_up_ne _ _ (by omega)]; exact hce
  refine gj_aload_n d_Ra_takeStep_70 rfl ?_
  refine gj_get d_Ra_takeStep_71 gf_Ra_15 f2 rfl ?_
  refine gj_aload_n d_Ra_takeStep_74 rfl ?_
  refine gj_get d_Ra_takeStep_75 gf_Ra_43 f2 rfl ?_
  refine gj_iload d_Ra_takeStep_78 rfl ?_
  refine gj_iast d_Ra_takeStep_80 f4 rfl (vp_in_nI (by omega) (by decide)) ?_
  obtain ⟨C7, eC7⟩ : ∃ z, z = va_up C1 (x + 2) (.inl (0, 60, .inl (upd ab (sp) (pr_hv la ut (a * 10 + b) sp 0 0)))) := ⟨_, rfl⟩
  refine gj_mem (eC7.trans (by rw [nI_clamp (by omega)])) ?_
  have f8 : C7 (x) = .inr (2, [.ref (x + 1), .ref (x + 2), .ref (x + 3), .ref (x + 4), .ref (x + 5), .ref (x + 6), .ref (x + 7), .ref (x + 8), .int (nI li), .int (nI sp)]) := by rw [eC7, va_up_ne _ _ (by omega)]; exact f2
  have f9 : C7 (x + 1) = .inl (0, 60, .inl (upd la (sp) (a * 10 + b))) := by rw [eC7, va_up_ne _ _ (by omega)]; exact f3
  have f10 : C7 (x + 2) = .inl (0, 60, .inl (upd ab (sp) (pr_hv la ut (a * 10 + b) sp 0 0))) := by rw [eC7]; exact va_up_self _ _ _
  have f11 : C7 (x + 3) = .inl (0, 60, .inl ut) := by rw [eC7, va_up_ne _ _ (by omega)]; exact f5
  have f12 : C7 (x + 4) = .inl (0, 60, .inl ce) := by rw [eC7, va_up_ne _ _ (by omega)]; exact f6
  refine gj_aload_n d_Ra_takeStep_81 rfl ?_
  refine gj_get d_Ra_takeStep_82 gf_Ra_18 f8 rfl ?_
  refine gj_aload_n d_Ra_takeStep_85 rfl ?_
  refine gj_get d_Ra_takeStep_86 gf_Ra_43 f8 rfl ?_
  refine gj_iload_n d_Ra_takeStep_89 rfl ?_
  refine gj_iast d_Ra_takeStep_90 f11 rfl (vp_in_nI (by omega) (by decide)) ?_
  obtain ⟨C13, eC13⟩ : ∃ z, z = va_up C7 (x + 3) (.inl (0, 60, .inl (upd ut (sp) (c)))) := ⟨_, rfl⟩
  refine gj_mem (eC13.trans (by rw [nI_clamp (by omega)])) ?_
  have f14 : C13 (x) = .inr (2, [.ref (x + 1), .ref (x + 2), .ref (x + 3), .ref (x + 4), .ref (x + 5), .ref (x + 6), .ref (x + 7), .ref (x + 8), .int (nI li), .int (nI sp)]) := by rw [eC13, va_up_ne _ _ (by omega)]; exact f8
  have f15 : C13 (x + 1) = .inl (0, 60, .inl (upd la (sp) (a * 10 + b))) := by rw [eC13, va_up_ne _ _ (by omega)]; exact f9
  have f16 : C13 (x + 2) = .inl (0, 60, .inl (upd ab (sp) (pr_hv la ut (a * 10 + b) sp 0 0))) := by rw [eC13, va_up_ne _ _ (by omega)]; exact f10
  have f17 : C13 (x + 3) = .inl (0, 60, .inl (upd ut (sp) (c))) := by rw [eC13]; exact va_up_self _ _ _
  have f18 : C13 (x + 4) = .inl (0, 60, .inl ce) := by rw [eC13, va_up_ne _ _ (by omega)]; exact f12
  refine gj_aload_n d_Ra_takeStep_91 rfl ?_
  refine gj_get d_Ra_takeStep_92 gf_Ra_21 f14 rfl ?_
  refine gj_aload_n d_Ra_takeStep_95 rfl ?_
  refine gj_get d_Ra_takeStep_96 gf_Ra_43 f14 rfl ?_
  refine gj_iload d_Ra_takeStep_99 rfl ?_
  refine gj_iast d_Ra_takeStep_101 f18 rfl (vp_in_nI (by omega) (by decide)) ?_
  obtain ⟨C19, eC19⟩ : ∃ z, z = va_up C13 (x + 4) (.inl (0, 60, .inl (upd ce (sp) (e)))) := ⟨_, rfl⟩
  refine gj_mem (eC19.trans (by rw [nI_clamp (by omega)])) ?_
  have f20 : C19 (x) = .inr (2, [.ref (x + 1), .ref (x + 2), .ref (x + 3), .ref (x + 4), .ref (x + 5), .ref (x + 6), .ref (x + 7), .ref (x + 8), .int (nI li), .int (nI sp)]) := by rw [eC19, va_up_ne _ _ (by omega)]; exact f14
  have f21 : C19 (x + 1) = .inl (0, 60, .inl (upd la (sp) (a * 10 + b))) := by rw [eC19, va_up_ne _ _ (by omega)]; exact f15
  have f22 : C19 (x + 2) = .inl (0, 60, .inl (upd ab (sp) (pr_hv la ut (a * 10 + b) sp 0 0))) := by rw [eC19, va_up_ne _ _ (by omega)]; exact f16
  have f23 : C19 (x + 3) = .inl (0, 60, .inl (upd ut (sp) (c))) := by rw [eC19, va_up_ne _ _ (by omega)]; exact f17
  have f24 : C19 (x + 4) = .inl (0, 60, .inl (upd ce (sp) (e))) := by rw [eC19]; exact va_up_self _ _ _
  refine gj_aload_n d_Ra_takeStep_102 rfl ?_
  refine gj_dup d_Ra_takeStep_103 rfl ?_
  refine gj_get d_Ra_takeStep_104 gf_Ra_43 f20 rfl ?_
  refine gj_kc (v := 1) d_Ra_takeStep_107 (by decide) ?_
  refine gj_iadd d_Ra_takeStep_108 ?_
  refine gj_top (y := nI (sp + 1)) (nI_add (sp) (1)) ?_
  refine gj_put d_Ra_takeStep_109 gp_Ra_43 f20 (Nat.le_of_ble_eq_true rfl) (fun _ => rfl) (fun _ => rfl) ?_
  obtain ⟨C25, eC25⟩ : ∃ z, z = va_up C19 (x) (.inr (2, [.ref (x + 1), .ref (x + 2), .ref (x + 3), .ref (x + 4), .ref (x + 5), .ref (x + 6), .ref (x + 7), .ref (x + 8), .int (nI li), .int (nI (sp + 1))])) := ⟨_, rfl⟩
  refine gj_mem eC25 ?_
  have f26 : C25 (x) = .inr (2, [.ref (x + 1), .ref (x + 2), .ref (x + 3), .ref (x + 4), .ref (x + 5), .ref (x + 6), .ref (x + 7), .ref (x + 8), .int (nI li), .int (nI (sp + 1))]) := by rw [eC25]; exact va_up_self _ _ _
  have f27 : C25 (x + 1) = .inl (0, 60, .inl (upd la (sp) (a * 10 + b))) := by rw [eC25, va_up_ne _ _ (by omega)]; exact f21
  have f28 : C25 (x + 2) = .inl (0, 60, .inl (upd ab (sp) (pr_hv la ut (a * 10 + b) sp 0 0))) := by rw [eC25, va_up_ne _ _ (by omega)]; exact f22
  have f29 : C25 (x + 3) = .inl (0, 60, .inl (upd ut (sp) (c))) := by rw [eC25, va_up_ne _ _ (by omega)]; exact f23
  have f30 : C25 (x + 4) = .inl (0, 60, .inl (upd ce (sp) (e))) := by rw [eC25, va_up_ne _ _ (by omega)]; exact f24
  refine gj_kc (v := 1) d_Ra_takeStep_112 (by decide) ?_
  refine gj_zret rfl (by first | exact Or.inl rfl | exact Or.inr rfl) (Nat.zero_le _) (Nat.zero_le _) d_Ra_takeStep_113 ?_
  exact ⟨rfl, rfl, f26, f27, f28, f29, f30, fun y g0 g1 g2 g3 g4 => by show C25 y = C y; rw [eC25, va_up_ne _ _ g0, eC19, va_up_ne _ _ g4, eC13, va_up_ne _ _ g3, eC7, va_up_ne _ _ g2, eC1, va_up_ne _ _ g1]⟩
set_option maxHeartbeats 2000000 in
theorem c_Ra_takeStep_no {d K N n x li sp : Nat} {C : Nat → va_E} {la ab ut ce : Nat → Int32} (hx : C (x) = .inr (2, [.ref (x + 1), .ref (x + 2), .ref (x + 3), .ref (x + 4), .ref (x + 5), .ref (x + 6), .ref (x + 7), .ref (x + 8), .int (nI li), .int (nI sp)])) (hla : C (x + 1) = .inl (0, 60, .inl la)) (hab : C (x + 2) = .inl (0, 60, .inl ab)) (hut : C (x + 3) = .inl (0, 60, .inl ut)) (hce : C (x + 4) = .inl (0, 60, .inl ce)) {a b c e : Int32} (h60 : sp < 60) (ok : ¬ (a < 10 ∧ b < 10 ∧ c ≤ 100000 ∧ e ≤ 1000000 ∧ pr_hv la ut (a * 10 + b) sp 0 0 < c)) : gj_G md_Ra_takeStep (d + 1) K N 0 0 0 [(0, .ref (x)), (1, .int (a)), (2, .int (b)), (3, .int (c)), (4, .int (e))] [] n C (fun r => r = (gj_iv 0, n, C)) := by
  refine gj_iload_n d_Ra_takeStep_0 rfl ?_
  refine gj_kb (v := 10) d_Ra_takeStep_1 (by decide) ?_
  refine gj_icmp_ge (tgt := 25) d_Ra_takeStep_3 (by decide) (fun h3 => ?_) (fun h3 => ?_)
  · refine gj_kc (v := 0) d_Ra_takeStep_25 (by decide) ?_
    refine gj_zret rfl (by first | exact Or.inl rfl | exact Or.inr rfl) (Nat.zero_le _) (Nat.zero_le _) d_Ra_takeStep_26 ?_
    exact rfl
  · refine gj_iload_n d_Ra_takeStep_6 rfl ?_
    refine gj_kb (v := 10) d_Ra_takeStep_7 (by decide) ?_
    refine gj_icmp_ge (tgt := 25) d_Ra_takeStep_9 (by decide) (fun h9 => ?_) (fun h9 => ?_)
    · refine gj_kc (v := 0) d_Ra_takeStep_25 (by decide) ?_
      refine gj_zret rfl (by first | exact Or.inl rfl | exact Or.inr rfl) (Nat.zero_le _) (Nat.zero_le _) d_Ra_takeStep_26 ?_
      exact rfl
    · refine gj_iload_n d_Ra_takeStep_12 rfl ?_
      refine gj_ldc d_Ra_takeStep_13 gw_201 ?_
      refine gj_icmp_gt (tgt := 25) d_Ra_takeStep_15 (by decide) (fun h15 => ?_) (fun h15 => ?_)
      · refine gj_kc (v := 0) d_Ra_takeStep_25 (by decide) ?_
        refine gj_zret rfl (by first | exact Or.inl rfl | exact Or.inr rfl) (Nat.zero_le _) (Nat.zero_le _) d_Ra_takeStep_26 ?_
        exact rfl
      · refine gj_iload d_Ra_takeStep_18 rfl ?_
        refine gj_ldc d_Ra_takeStep_20 gw_202 ?_
        refine gj_icmp_le (tgt := 27) d_Ra_takeStep_22 (by decide) (fun h22 => ?_) (fun h22 => ?_)
        · refine gj_iload_n d_Ra_takeStep_27 rfl ?_
          refine gj_iload_n d_Ra_takeStep_28 rfl ?_
          refine gj_callSN (as := [.int (a), .int (b)]) (rest := []) (K1 := 0) (N1 := 0) d_Ra_takeStep_29 mo_RB_laneOf gw_203 gw_204 gw_20 pl_RB_laneOf (Nat.le_of_ble_eq_true rfl) (Nat.le_of_ble_eq_true rfl) (Nat.zero_le _) (Nat.zero_le _) (c_RB_laneOf a b) (fun E n' C' _ h => by cases h) (fun v n' C' _ h => ?_)
          cases h
          refine gj_istore d_Ra_takeStep_32 (by decide) ?_
          refine gj_aload_n d_Ra_takeStep_34 rfl ?_
          refine gj_iload d_Ra_takeStep_35 rfl ?_
          refine gj_callV (as := [.int (a * 10 + b)]) (rest := []) (K1 := 0) (N1 := 0) d_Ra_takeStep_37 mo_Ra_heaviest gw_206 gw_208 gw_4 hx rfl pl_Ra_heaviest (Nat.le_of_ble_eq_true rfl) (Nat.le_of_ble_eq_true rfl) (Nat.zero_le _) (Nat.zero_le _) (c_Ra_heaviest hx hla hut (by omega)) (fun E n' C' _ h => by cases h) (fun v n' C' _ h => ?_)
          cases h
          refine gj_istore d_Ra_takeStep_40 (by decide) ?_
          refine gj_iload_n d_Ra_takeStep_42 rfl ?_
          refine gj_iload d_Ra_takeStep_43 rfl ?_
          refine gj_icmp_le (tgt := 57) d_Ra_takeStep_45 (by decide) (fun h45 => ?_) (fun h45 => ?_)
          · refine gj_kc (v := 0) d_Ra_takeStep_57 (by decide) ?_
            refine gj_zret rfl (by first | exact Or.inl rfl | exact Or.inr rfl) (Nat.zero_le _) (Nat.zero_le _) d_Ra_takeStep_58 ?_
            exact rfl
          · refine gj_aload_n d_Ra_takeStep_48 rfl ?_
            refine gj_get d_Ra_takeStep_49 gf_Ra_43 hx rfl ?_
            refine gj_kb (v := 60) d_Ra_takeStep_52 (by decide) ?_
            refine gj_icmp_lt (tgt := 59) d_Ra_takeStep_54 (by decide) (fun h54 => ?_) (fun h54 => by have m54 : ¬ (sp < 60) := fun q => h54 ((nI_ltI (a := sp) (b := 60) (by omega) (by omega)).mpr q); exact absurd (show sp < 60 from by omega) m54)
            have m54 : sp < 60 := (nI_ltI (a := sp) (b := 60) (by omega) (by omega)).mp h54
            exact absurd ⟨Int32.not_le.mp h3, Int32.not_le.mp h9, Int32.not_lt.mp h15, h22, Int32.not_le.mp h45⟩ ok
        · refine gj_kc (v := 0) d_Ra_takeStep_25 (by decide) ?_
          refine gj_zret rfl (by first | exact Or.inl rfl | exact Or.inr rfl) (Nat.zero_le _) (Nat.zero_le _) d_Ra_takeStep_26 ?_
          exact rfl
set_option maxHeartbeats 2000000 in
theorem c_Ra_takeKind {d K N n x y li sp j : Nat} {C : Nat → va_E} {la ab ut ce dv mi fu fd g : Nat → Int32} (hx : C (x) = .inr (2, [.ref (x + 1), .ref (x + 2), .ref (x + 3), .ref (x + 4), .ref (x + 5), .ref (x + 6), .ref (x + 7), .ref (x + 8), .int (nI li), .int (nI sp)])) (hla : C (x + 1) = .inl (0, 60, .inl la)) (hab : C (x + 2) = .inl (0, 60, .inl ab)) (hut : C (x + 3) = .inl (0, 60, .inl ut)) (hce : C (x + 4) = .inl (0, 60, .inl ce)) (hdv : C (x + 5) = .inl (0, 10, .inl dv)) (hmi : C (x + 6) = .inl (0, 10, .inl mi)) (hfu : C (x + 7) = .inl (0, 10, .inl fu)) (hfd : C (x + 8) = .inl (0, 10, .inl fd)) (hy : C (y) = .inl (0, 4, .inl g)) {L : Int32} (hxy : y < x ∨ x + 8 < y) (h60 : sp < 60) (hj : g 0 = nI j) (hjb : j < 2 ^ 31) : gj_G md_Ra_takeKind (d + 2) K N 0 0 0 [(0, .ref (x)), (1, .int (L)), (2, .ref (y))] [] n C (fun r => r.2.1 = n ∧ (∀ z, z < x ∨ x + 8 < z → r.2.2 z = C z) ∧ ((pr_ok L j (g 1) (g 2) (g 3) (la, ab, ut, ce, dv, mi, fu, fd, sp) ∧ r.1 = gj_iv 1 ∧ pr_M r.2.2 x (pr_nx L j (g 1) (g 2) (g 3) (la, ab, ut, ce, dv, mi, fu, fd, sp)) (nI li)) ∨ (¬ pr_ok L j (g 1) (g 2) (g 3) (la, ab, ut, ce, dv, mi, fu, fd, sp) ∧ r.1 = gj_iv 0 ∧ ∃ T2 l2, pr_M r.2.2 x T2 l2))) := by
  refine gj_aload_n d_Ra_takeKind_0 rfl ?_
  refine gj_kc (v := 0) d_Ra_takeKind_1 (by decide) ?_
  refine gj_iald d_Ra_takeKind_2 hy rfl (vp_in_nI (n := 0) (by omega) (by decide)) ?_
  refine gj_top (y := g 0) (congrArg g (by decide)) ?_
  refine gj_top hj ?_
  refine gj_istore_n d_Ra_takeKind_3 (by decide) ?_
  refine gj_iload_n d_Ra_takeKind_4 rfl ?_
  -- switch
  by_cases s5_0 : L = 68
  · refine gj_lookup (off := 58) (tgt := 63) d_Ra_takeKind_5 (by decide) (by rw [s5_0]; decide) (by decide) ?_
    refine gj_aload_n d_Ra_takeKind_63 rfl ?_
    refine gj_get d_Ra_takeKind_64 gf_Ra_24 hx rfl ?_
    refine gj_iload_n d_Ra_takeKind_67 rfl ?_
    refine gj_aload_n d_Ra_takeKind_68 rfl ?_
    refine gj_kc (v := 1) d_Ra_takeKind_69 (by decide) ?_
    refine gj_iald d_Ra_takeKind_70 hy rfl (vp_in_nI (n := 1) (by omega) (by decide)) ?_
    refine gj_top (y := g 1) (congrArg g (by decide)) ?_
    refine gj_ldc d_Ra_takeKind_71 gw_201 ?_
    by_cases q73 : j < 10 ∧ dv j = -1 ∧ g 1 ≤ 100000
    · refine gj_callS (as := [.ref (x + 5), .int (nI j), .int (g 1), .int (100000)]) (rest := []) (K1 := 0) (N1 := 0) d_Ra_takeKind_73 mo_Ra_takeOnce gw_210 gw_211 gw_22 pl_Ra_takeOnce (Nat.le_of_ble_eq_true rfl) (Nat.le_of_ble_eq_true rfl) (Nat.zero_le _) (Nat.zero_le _) (c_Ra_takeOnce hdv q73.1 q73.2.1 q73.2.2) (fun E n' C' _ h => by obtain ⟨hv, -⟩ := h; exact nomatch hv) (fun v1 n1 C1 _ h1 => ?_)
      obtain ⟨hv1, hn1, u1_0, hr1⟩ := h1
      dsimp only [gj_iv, gj_vv, gj_lv2] at hv1 hn1 hr1 u1_0
      cases hv1; cases hn1
      have f2 : C1 (x) = .inr (2, [.ref (x + 1), .ref (x + 2), .ref (x + 3), .ref (x + 4), .ref (x + 5), .ref (x + 6), .ref (x + 7), .ref (x + 8), .int (nI li), .int (nI sp)]) := (hr1 _ (by omega)).trans hx
      have f3 : C1 (x + 1) = .inl (0, 60, .inl la) := (hr1 _ (by omega)).trans hla
      have f4 : C1 (x + 2) = .inl (0, 60, .inl ab) := (hr1 _ (by omega)).trans hab
      have f5 : C1 (x + 3) = .inl (0, 60, .inl ut) := (hr1 _ (by omega)).trans hut
      have f6 : C1 (x + 4) = .inl (0, 60, .inl ce) := (hr1 _ (by omega)).trans hce
      have f7 : C1 (x + 6) = .inl (0, 10, .inl mi) := (hr1 _ (by omega)).trans hmi
      have f8 : C1 (x + 7) = .inl (0, 10, .inl fu) := (hr1 _ (by omega)).trans hfu
      have f9 : C1 (x + 8) = .inl (0, 10, .inl fd) := (hr1 _ (by omega)).trans hfd
      have f10 : C1 (y) = .inl (0, 4, .inl g) := (hr1 _ (by omega)).trans hy
      refine gj_zret rfl (by first | exact Or.inl rfl | exact Or.inr rfl) (Nat.zero_le _) (Nat.zero_le _) d_Ra_takeKind_76 ?_
      subst s5_0
      exact ⟨rfl, fun z hz => (hr1 z (by omega)).trans (rfl), Or.inl ⟨Or.inr (Or.inl ⟨rfl, q73.1, q73.2.1, q73.2.2⟩), rfl, ⟨f2, f3, f4, f5, f6, u1_0, f7, f8, f9⟩⟩⟩
    · refine gj_callS (as := [.ref (x + 5), .int (nI j), .int (g 1), .int (100000)]) (rest := []) (K1 := 0) (N1 := 0) d_Ra_takeKind_73 mo_Ra_takeOnce gw_210 gw_211 gw_22 pl_Ra_takeOnce (Nat.le_of_ble_eq_true rfl) (Nat.le_of_ble_eq_true rfl) (Nat.zero_le _) (Nat.zero_le _) (c_Ra_takeOnce_no hdv hjb q73) (fun E n' C' _ h => by cases h) (fun v n' C' _ h => ?_)
      cases h
      refine gj_zret rfl (by first | exact Or.inl rfl | exact Or.inr rfl) (Nat.zero_le _) (Nat.zero_le _) d_Ra_takeKind_76 ?_
      have hno : ¬ pr_ok L j (g 1) (g 2) (g 3) (la, ab, ut, ce, dv, mi, fu, fd, sp) := by
        intro p
        subst s5_0
        rcases p with p | p | p | p
        · exact absurd p.1 (by decide)
        · exact q73 ⟨p.2.1, p.2.2.1, p.2.2.2⟩
        · exact absurd p.1 (by decide)
        · exact absurd p.1 (by decide)
      exact ⟨rfl, fun _ _ => rfl, Or.inr ⟨fun q => hno q, rfl, (la, ab, ut, ce, dv, mi, fu, fd, sp), nI li, ⟨hx, hla, hab, hut, hce, hdv, hmi, hfu, hfd⟩⟩⟩
  · by_cases s5_1 : L = 70
    · refine gj_lookup (off := 86) (tgt := 91) d_Ra_takeKind_5 (by decide) (by rw [s5_1]; decide) (by decide) ?_
      refine gj_aload_n d_Ra_takeKind_91 rfl ?_
      refine gj_kc (v := 2) d_Ra_takeKind_92 (by decide) ?_
      refine gj_iald d_Ra_takeKind_93 hy rfl (vp_in_nI (n := 2) (by omega) (by decide)) ?_
      refine gj_top (y := g 2) (congrArg g (by decide)) ?_
      refine gj_kc (v := 1) d_Ra_takeKind_94 (by decide) ?_
      refine gj_icmp_lt (tgt := 136) d_Ra_takeKind_95 (by decide) (fun h95 => ?_) (fun h95 => ?_)
      · refine gj_kc (v := 0) d_Ra_takeKind_136 (by decide) ?_
        refine gj_zret rfl (by first | exact Or.inl rfl | exact Or.inr rfl) (Nat.zero_le _) (Nat.zero_le _) d_Ra_takeKind_137 ?_
        have hno : ¬ pr_ok L j (g 1) (g 2) (g 3) (la, ab, ut, ce, dv, mi, fu, fd, sp) := by
          intro p
          subst s5_1
          rcases p with p | p | p | p
          · exact absurd p.1 (by decide)
          · exact absurd p.1 (by decide)
          · exact absurd p.1 (by decide)
          · exact absurd p.2.2.1 (Int32.not_le.mpr h95)
        exact ⟨rfl, fun _ _ => rfl, Or.inr ⟨fun q => hno q, rfl, (la, ab, ut, ce, dv, mi, fu, fd, sp), nI li, ⟨hx, hla, hab, hut, hce, hdv, hmi, hfu, hfd⟩⟩⟩
      · refine gj_aload_n d_Ra_takeKind_98 rfl ?_
        refine gj_get d_Ra_takeKind_99 gf_Ra_33 hx rfl ?_
        refine gj_iload_n d_Ra_takeKind_102 rfl ?_
        refine gj_aload_n d_Ra_takeKind_103 rfl ?_
        refine gj_kc (v := 2) d_Ra_takeKind_104 (by decide) ?_
        refine gj_iald d_Ra_takeKind_105 hy rfl (vp_in_nI (n := 2) (by omega) (by decide)) ?_
        refine gj_top (y := g 2) (congrArg g (by decide)) ?_
        refine gj_ks (v := 1000) d_Ra_takeKind_106 (by decide) ?_
        by_cases q109 : j < 10 ∧ fd j = -1 ∧ g 2 ≤ 1000
        · refine gj_callS (as := [.ref (x + 8), .int (nI j), .int (g 2), .int (1000)]) (rest := []) (K1 := 0) (N1 := 0) d_Ra_takeKind_109 mo_Ra_takeOnce gw_210 gw_211 gw_22 pl_Ra_takeOnce (Nat.le_of_ble_eq_true rfl) (Nat.le_of_ble_eq_true rfl) (Nat.zero_le _) (Nat.zero_le _) (c_Ra_takeOnce hfd q109.1 q109.2.1 q109.2.2) (fun E n' C' _ h => by obtain ⟨hv, -⟩ := h; exact nomatch hv) (fun v11 n11 C11 _ h11 => ?_)
          obtain ⟨hv11, hn11, u11_0, hr11⟩ := h11
          dsimp only [gj_iv, gj_vv, gj_lv2] at hv11 hn11 hr11 u11_0
          cases hv11; cases hn11
          have f12 : C11 (x) = .inr (2, [.ref (x + 1), .ref (x + 2), .ref (x + 3), .ref (x + 4), .ref (x + 5), .ref (x + 6), .ref (x + 7), .ref (x + 8), .int (nI li), .int (nI sp)]) := (hr11 _ (by omega)).trans hx
          have f13 : C11 (x + 1) = .inl (0, 60, .inl la) := (hr11 _ (by omega)).trans hla
          have f14 : C11 (x + 2) = .inl (0, 60, .inl ab) := (hr11 _ (by omega)).trans hab
          have f15 : C11 (x + 3) = .inl (0, 60, .inl ut) := (hr11 _ (by omega)).trans hut
          have f16 : C11 (x + 4) = .inl (0, 60, .inl ce) := (hr11 _ (by omega)).trans hce
          have f17 : C11 (x + 5) = .inl (0, 10, .inl dv) := (hr11 _ (by omega)).trans hdv
          have f18 : C11 (x + 6) = .inl (0, 10, .inl mi) := (hr11 _ (by omega)).trans hmi
          have f19 : C11 (x + 7) = .inl (0, 10, .inl fu) := (hr11 _ (by omega)).trans hfu
          have f20 : C11 (y) = .inl (0, 4, .inl g) := (hr11 _ (by omega)).trans hy
          refine gj_if_eq (tgt := 136) d_Ra_takeKind_112 (by decide) (fun h112 => absurd h112 (by decide)) (fun h112 => ?_)
          refine gj_aload_n d_Ra_takeKind_115 rfl ?_
          refine gj_get d_Ra_takeKind_116 gf_Ra_30 f12 rfl ?_
          refine gj_iload_n d_Ra_takeKind_119 rfl ?_
          refine gj_aload_n d_Ra_takeKind_120 rfl ?_
          refine gj_kc (v := 1) d_Ra_takeKind_121 (by decide) ?_
          refine gj_iald d_Ra_takeKind_122 f20 rfl (vp_in_nI (n := 1) (by omega) (by decide)) ?_
          refine gj_top (y := g 1) (congrArg g (by decide)) ?_
          refine gj_aload_n d_Ra_takeKind_123 rfl ?_
          refine gj_kc (v := 2) d_Ra_takeKind_124 (by decide) ?_
          refine gj_iald d_Ra_takeKind_125 f20 rfl (vp_in_nI (n := 2) (by omega) (by decide)) ?_
          refine gj_top (y := g 2) (congrArg g (by decide)) ?_
          by_cases q126 : j < 10 ∧ fu j = -1 ∧ g 1 ≤ g 2
          · refine gj_callS (as := [.ref (x + 7), .int (nI j), .int (g 1), .int (g 2)]) (rest := []) (K1 := 0) (N1 := 0) d_Ra_takeKind_126 mo_Ra_takeOnce gw_210 gw_211 gw_22 pl_Ra_takeOnce (Nat.le_of_ble_eq_true rfl) (Nat.le_of_ble_eq_true rfl) (Nat.zero_le _) (Nat.zero_le _) (c_Ra_takeOnce f19 q126.1 q126.2.1 q126.2.2) (fun E n' C' _ h => by obtain ⟨hv, -⟩ := h; exact nomatch hv) (fun v21 n21 C21 _ h21 => ?_)
            obtain ⟨hv21, hn21, u21_0, hr21⟩ := h21
            dsimp only [gj_iv, gj_vv, gj_lv2] at hv21 hn21 hr21 u21_0
            cases hv21; cases hn21
            have f22 : C21 (x + 8) = .inl (0, 10, .inl (upd fd j (g 2))) := (hr21 _ (by omega)).trans u11_0
            have f23 : C21 (x) = .inr (2, [.ref (x + 1), .ref (x + 2), .ref (x + 3), .ref (x + 4), .ref (x + 5), .ref (x + 6), .ref (x + 7), .ref (x + 8), .int (nI li), .int (nI sp)]) := (hr21 _ (by omega)).trans f12
            have f24 : C21 (x + 1) = .inl (0, 60, .inl la) := (hr21 _ (by omega)).trans f13
            have f25 : C21 (x + 2) = .inl (0, 60, .inl ab) := (hr21 _ (by omega)).trans f14
            have f26 : C21 (x + 3) = .inl (0, 60, .inl ut) := (hr21 _ (by omega)).trans f15
            have f27 : C21 (x + 4) = .inl (0, 60, .inl ce) := (hr21 _ (by omega)).trans f16
            have f28 : C21 (x + 5) = .inl (0, 10, .inl dv) := (hr21 _ (by omega)).trans f17
            have f29 : C21 (x + 6) = .inl (0, 10, .inl mi) := (hr21 _ (by omega)).trans f18
            have f30 : C21 (y) = .inl (0, 4, .inl g) := (hr21 _ (by omega)).trans f20
            refine gj_if_eq (tgt := 136) d_Ra_takeKind_129 (by decide) (fun h129 => absurd h129 (by decide)) (fun h129 => ?_)
            refine gj_kc (v := 1) d_Ra_takeKind_132 (by decide) ?_
            refine gj_goto (tgt := 137) d_Ra_takeKind_133 (by decide) ?_
            refine gj_zret rfl (by first | exact Or.inl rfl | exact Or.inr rfl) (Nat.zero_le _) (Nat.zero_le _) d_Ra_takeKind_137 ?_
            subst s5_1
            exact ⟨rfl, fun z hz => (hr21 z (by omega)).trans ((hr11 z (by omega)).trans (rfl)), Or.inl ⟨Or.inr (Or.inr (Or.inr ⟨rfl, q109.1, Int32.not_lt.mp h95, q109.2.1, q109.2.2, q126.2.1, q126.2.2⟩)), rfl, ⟨f23, f24, f25, f26, f27, f28, f29, u21_0, f22⟩⟩⟩
          · refine gj_callS (as := [.ref (x + 7), .int (nI j), .int (g 1), .int (g 2)]) (rest := []) (K1 := 0) (N1 := 0) d_Ra_takeKind_126 mo_Ra_takeOnce gw_210 gw_211 gw_22 pl_Ra_takeOnce (Nat.le_of_ble_eq_true rfl) (Nat.le_of_ble_eq_true rfl) (Nat.zero_le _) (Nat.zero_le _) (c_Ra_takeOnce_no f19 hjb q126) (fun E n' C' _ h => by cases h) (fun v n' C' _ h => ?_)
            cases h
            refine gj_if_eq (tgt := 136) d_Ra_takeKind_129 (by decide) (fun h129 => ?_) (fun h129 => absurd (rfl) h129)
            refine gj_kc (v := 0) d_Ra_takeKind_136 (by decide) ?_
            refine gj_zret rfl (by first | exact Or.inl rfl | exact Or.inr rfl) (Nat.zero_le _) (Nat.zero_le _) d_Ra_takeKind_137 ?_
            have hno : ¬ pr_ok L j (g 1) (g 2) (g 3) (la, ab, ut, ce, dv, mi, fu, fd, sp) := by
              intro p
              subst s5_1
              rcases p with p | p | p | p
              · exact absurd p.1 (by decide)
              · exact absurd p.1 (by decide)
              · exact absurd p.1 (by decide)
              · exact q126 ⟨p.2.1, p.2.2.2.2.2.1, p.2.2.2.2.2.2⟩
            exact ⟨rfl, fun z hz => (hr11 z (by omega)).trans (rfl), Or.inr ⟨fun q => hno q, rfl, (la, ab, ut, ce, dv, mi, fu, (upd fd j (g 2)), sp), nI li, ⟨f12, f13, f14, f15, f16, f17, f18, f19, u11_0⟩⟩⟩
        · refine gj_callS (as := [.ref (x + 8), .int (nI j), .int (g 2), .int (1000)]) (rest := []) (K1 := 0) (N1 := 0) d_Ra_takeKind_109 mo_Ra_takeOnce gw_210 gw_211 gw_22 pl_Ra_takeOnce (Nat.le_of_ble_eq_true rfl) (Nat.le_of_ble_eq_true rfl) (Nat.zero_le _) (Nat.zero_le _) (c_Ra_takeOnce_no hfd hjb q109) (fun E n' C' _ h => by cases h) (fun v n' C' _ h => ?_)
          cases h
          refine gj_if_eq (tgt := 136) d_Ra_takeKind_112 (by decide) (fun h112 => ?_) (fun h112 => absurd (rfl) h112)
          refine gj_kc (v := 0) d_Ra_takeKind_136 (by decide) ?_
          refine gj_zret rfl (by first | exact Or.inl rfl | exact Or.inr rfl) (Nat.zero_le _) (Nat.zero_le _) d_Ra_takeKind_137 ?_
          have hno : ¬ pr_ok L j (g 1) (g 2) (g 3) (la, ab, ut, ce, dv, mi, fu, fd, sp) := by
            intro p
            subst s5_1
            rcases p with p | p | p | p
            · exact absurd p.1 (by decide)
            · exact absurd p.1 (by decide)
            · exact absurd p.1 (by decide)
            · exact q109 ⟨p.2.1, p.2.2.2.1, p.2.2.2.2.1⟩
          exact ⟨rfl, fun _ _ => rfl, Or.inr ⟨fun q => hno q, rfl, (la, ab, ut, ce, dv, mi, fu, fd, sp), nI li, ⟨hx, hla, hab, hut, hce, hdv, hmi, hfu, hfd⟩⟩⟩
    · by_cases s5_2 : L = 77
      · refine gj_lookup (off := 72) (tgt := 77) d_Ra_takeKind_5 (by decide) (by rw [s5_2]; decide) (by decide) ?_
        refine gj_aload_n d_Ra_takeKind_77 rfl ?_
        refine gj_get d_Ra_takeKind_78 gf_Ra_27 hx rfl ?_
        refine gj_iload_n d_Ra_takeKind_81 rfl ?_
        refine gj_aload_n d_Ra_takeKind_82 rfl ?_
        refine gj_kc (v := 1) d_Ra_takeKind_83 (by decide) ?_
        refine gj_iald d_Ra_takeKind_84 hy rfl (vp_in_nI (n := 1) (by omega) (by decide)) ?_
        refine gj_top (y := g 1) (congrArg g (by decide)) ?_
        refine gj_ldc d_Ra_takeKind_85 gw_202 ?_
        by_cases q87 : j < 10 ∧ mi j = -1 ∧ g 1 ≤ 1000000
        · refine gj_callS (as := [.ref (x + 6), .int (nI j), .int (g 1), .int (1000000)]) (rest := []) (K1 := 0) (N1 := 0) d_Ra_takeKind_87 mo_Ra_takeOnce gw_210 gw_211 gw_22 pl_Ra_takeOnce (Nat.le_of_ble_eq_true rfl) (Nat.le_of_ble_eq_true rfl) (Nat.zero_le _) (Nat.zero_le _) (c_Ra_takeOnce hmi q87.1 q87.2.1 q87.2.2) (fun E n' C' _ h => by obtain ⟨hv, -⟩ := h; exact nomatch hv) (fun v31 n31 C31 _ h31 => ?_)
          obtain ⟨hv31, hn31, u31_0, hr31⟩ := h31
          dsimp only [gj_iv, gj_vv, gj_lv2] at hv31 hn31 hr31 u31_0
          cases hv31; cases hn31
          have f32 : C31 (x) = .inr (2, [.ref (x + 1), .ref (x + 2), .ref (x + 3), .ref (x + 4), .ref (x + 5), .ref (x + 6), .ref (x + 7), .ref (x + 8), .int (nI li), .int (nI sp)]) := (hr31 _ (by omega)).trans hx
          have f33 : C31 (x + 1) = .inl (0, 60, .inl la) := (hr31 _ (by omega)).trans hla
          have f34 : C31 (x + 2) = .inl (0, 60, .inl ab) := (hr31 _ (by omega)).trans hab
          have f35 : C31 (x + 3) = .inl (0, 60, .inl ut) := (hr31 _ (by omega)).trans hut
          have f36 : C31 (x + 4) = .inl (0, 60, .inl ce) := (hr31 _ (by omega)).trans hce
          have f37 : C31 (x + 5) = .inl (0, 10, .inl dv) := (hr31 _ (by omega)).trans hdv
          have f38 : C31 (x + 7) = .inl (0, 10, .inl fu) := (hr31 _ (by omega)).trans hfu
          have f39 : C31 (x + 8) = .inl (0, 10, .inl fd) := (hr31 _ (by omega)).trans hfd
          have f40 : C31 (y) = .inl (0, 4, .inl g) := (hr31 _ (by omega)).trans hy
          refine gj_zret rfl (by first | exact Or.inl rfl | exact Or.inr rfl) (Nat.zero_le _) (Nat.zero_le _) d_Ra_takeKind_90 ?_
          subst s5_2
          exact ⟨rfl, fun z hz => (hr31 z (by omega)).trans (rfl), Or.inl ⟨Or.inr (Or.inr (Or.inl ⟨rfl, q87.1, q87.2.1, q87.2.2⟩)), rfl, ⟨f32, f33, f34, f35, f36, f37, u31_0, f38, f39⟩⟩⟩
        · refine gj_callS (as := [.ref (x + 6), .int (nI j), .int (g 1), .int (1000000)]) (rest := []) (K1 := 0) (N1 := 0) d_Ra_takeKind_87 mo_Ra_takeOnce gw_210 gw_211 gw_22 pl_Ra_takeOnce (Nat.le_of_ble_eq_true rfl) (Nat.le_of_ble_eq_true rfl) (Nat.zero_le _) (Nat.zero_le _) (c_Ra_takeOnce_no hmi hjb q87) (fun E n' C' _ h => by cases h) (fun v n' C' _ h => ?_)
          cases h
          refine gj_zret rfl (by first | exact Or.inl rfl | exact Or.inr rfl) (Nat.zero_le _) (Nat.zero_le _) d_Ra_takeKind_90 ?_
          have hno : ¬ pr_ok L j (g 1) (g 2) (g 3) (la, ab, ut, ce, dv, mi, fu, fd, sp) := by
            intro p
            subst s5_2
            rcases p with p | p | p | p
            · exact absurd p.1 (by decide)
            · exact absurd p.1 (by decide)
            · exact q87 ⟨p.2.1, p.2.2.1, p.2.2.2⟩
            · exact absurd p.1 (by decide)
          exact ⟨rfl, fun _ _ => rfl, Or.inr ⟨fun q => hno q, rfl, (la, ab, ut, ce, dv, mi, fu, fd, sp), nI li, ⟨hx, hla, hab, hut, hce, hdv, hmi, hfu, hfd⟩⟩⟩
      · by_cases s5_3 : L = 82
        · refine gj_lookup (off := 43) (tgt := 48) d_Ra_takeKind_5 (by decide) (by rw [s5_3]; decide) (by decide) ?_
          refine gj_aload_n d_Ra_takeKind_48 rfl ?_
          refine gj_iload_n d_Ra_takeKind_49 rfl ?_
          refine gj_aload_n d_Ra_takeKind_50 rfl ?_
          refine gj_kc (v := 1) d_Ra_takeKind_51 (by decide) ?_
          refine gj_iald d_Ra_takeKind_52 hy rfl (vp_in_nI (n := 1) (by omega) (by decide)) ?_
          refine gj_top (y := g 1) (congrArg g (by decide)) ?_
          refine gj_aload_n d_Ra_takeKind_53 rfl ?_
          refine gj_kc (v := 2) d_Ra_takeKind_54 (by decide) ?_
          refine gj_iald d_Ra_takeKind_55 hy rfl (vp_in_nI (n := 2) (by omega) (by decide)) ?_
          refine gj_top (y := g 2) (congrArg g (by decide)) ?_
          refine gj_aload_n d_Ra_takeKind_56 rfl ?_
          refine gj_kc (v := 3) d_Ra_takeKind_57 (by decide) ?_
          refine gj_iald d_Ra_takeKind_58 hy rfl (vp_in_nI (n := 3) (by omega) (by decide)) ?_
          refine gj_top (y := g 3) (congrArg g (by decide)) ?_
          by_cases q59 : nI j < 10 ∧ g 1 < 10 ∧ g 2 ≤ 100000 ∧ g 3 ≤ 1000000 ∧ pr_hv la ut (nI j * 10 + g 1) sp 0 0 < g 2
          · refine gj_callV (as := [.int (nI j), .int (g 1), .int (g 2), .int (g 3)]) (rest := []) (K1 := 0) (N1 := 0) d_Ra_takeKind_59 mo_Ra_takeStep gw_197 gw_199 gw_3 hx rfl pl_Ra_takeStep (Nat.le_of_ble_eq_true rfl) (Nat.le_of_ble_eq_true rfl) (Nat.zero_le _) (Nat.zero_le _) (c_Ra_takeStep hx hla hab hut hce h60 q59) (fun E n' C' _ h => by obtain ⟨hv, -⟩ := h; exact nomatch hv) (fun v41 n41 C41 _ h41 => ?_)
            obtain ⟨hv41, hn41, u41_0, u41_1, u41_2, u41_3, u41_4, hr41⟩ := h41
            dsimp only [gj_iv, gj_vv, gj_lv2] at hv41 hn41 hr41 u41_0 u41_1 u41_2 u41_3 u41_4
            cases hv41; cases hn41
            have f42 : C41 (x + 5) = .inl (0, 10, .inl dv) := (hr41 _ (by omega) (by omega) (by omega) (by omega) (by omega)).trans hdv
            have f43 : C41 (x + 6) = .inl (0, 10, .inl mi) := (hr41 _ (by omega) (by omega) (by omega) (by omega) (by omega)).trans hmi
            have f44 : C41 (x + 7) = .inl (0, 10, .inl fu) := (hr41 _ (by omega) (by omega) (by omega) (by omega) (by omega)).trans hfu
            have f45 : C41 (x + 8) = .inl (0, 10, .inl fd) := (hr41 _ (by omega) (by omega) (by omega) (by omega) (by omega)).trans hfd
            have f46 : C41 (y) = .inl (0, 4, .inl g) := (hr41 _ (by omega) (by omega) (by omega) (by omega) (by omega)).trans hy
            refine gj_zret rfl (by first | exact Or.inl rfl | exact Or.inr rfl) (Nat.zero_le _) (Nat.zero_le _) d_Ra_takeKind_62 ?_
            subst s5_3
            exact ⟨rfl, fun z hz => (hr41 z (by omega) (by omega) (by omega) (by omega) (by omega)).trans (rfl), Or.inl ⟨Or.inl ⟨rfl, (nI_ltI hjb (by decide)).mp q59.1, q59.2⟩, rfl, ⟨u41_0, u41_1, u41_2, u41_3, u41_4, f42, f43, f44, f45⟩⟩⟩
          · refine gj_callV (as := [.int (nI j), .int (g 1), .int (g 2), .int (g 3)]) (rest := []) (K1 := 0) (N1 := 0) d_Ra_takeKind_59 mo_Ra_takeStep gw_197 gw_199 gw_3 hx rfl pl_Ra_takeStep (Nat.le_of_ble_eq_true rfl) (Nat.le_of_ble_eq_true rfl) (Nat.zero_le _) (Nat.zero_le _) (c_Ra_takeStep_no hx hla hab hut hce h60 q59) (fun E n' C' _ h => by cases h) (fun v n' C' _ h => ?_)
            cases h
            refine gj_zret rfl (by first | exact Or.inl rfl | exact Or.inr rfl) (Nat.zero_le _) (Nat.zero_le _) d_Ra_takeKind_62 ?_
            have hno : ¬ pr_ok L j (g 1) (g 2) (g 3) (la, ab, ut, ce, dv, mi, fu, fd, sp) := by
              intro p
              subst s5_3
              rcases p with p | p | p | p
              · exact q59 ⟨(nI_ltI (b := 10) hjb (by decide)).mpr p.2.1, p.2.2⟩
              · exact absurd p.1 (by decide)
              · exact absurd p.1 (by decide)
              · exact absurd p.1 (by decide)
            exact ⟨rfl, fun _ _ => rfl, Or.inr ⟨fun q => hno q, rfl, (la, ab, ut, ce, dv, mi, fu, fd, sp), nI li, ⟨hx, hla, hab, hut, hce, hdv, hmi, hfu, hfd⟩⟩⟩
        · refine gj_lookup (off := 133) (tgt := 138) d_Ra_takeKind_5 (by decide) (by rw [lv_osw s5_0 (by decide), lv_osw s5_1 (by decide), lv_osw s5_2 (by decide), lv_osw s5_3 (by decide)]; rfl) (by decide) ?_
          refine gj_kc (v := 0) d_Ra_takeKind_138 (by decide) ?_
          refine gj_zret rfl (by first | exact Or.inl rfl | exact Or.inr rfl) (Nat.zero_le _) (Nat.zero_le _) d_Ra_takeKind_139 ?_
          have hno : ¬ pr_ok L j (g 1) (g 2) (g 3) (la, ab, ut, ce, dv, mi, fu, fd, sp) := by
            intro p
            rcases p with p | p | p | p
            · exact s5_3 p.1
            · exact s5_0 p.1
            · exact s5_2 p.1
            · exact s5_1 p.1
          exact ⟨rfl, fun _ _ => rfl, Or.inr ⟨fun q => hno q, rfl, (la, ab, ut, ce, dv, mi, fu, fd, sp), nI li, ⟨hx, hla, hab, hut, hce, hdv, hmi, hfu, hfd⟩⟩⟩
set_option maxHeartbeats 2000000 in
theorem c_Ra_take {d K N n x y li sp j : Nat} {C : Nat → va_E} {la ab ut ce dv mi fu fd g : Nat → Int32} (hx : C (x) = .inr (2, [.ref (x + 1), .ref (x + 2), .ref (x + 3), .ref (x + 4), .ref (x + 5), .ref (x + 6), .ref (x + 7), .ref (x + 8), .int (nI li), .int (nI sp)])) (hla : C (x + 1) = .inl (0, 60, .inl la)) (hab : C (x + 2) = .inl (0, 60, .inl ab)) (hut : C (x + 3) = .inl (0, 60, .inl ut)) (hce : C (x + 4) = .inl (0, 60, .inl ce)) (hdv : C (x + 5) = .inl (0, 10, .inl dv)) (hmi : C (x + 6) = .inl (0, 10, .inl mi)) (hfu : C (x + 7) = .inl (0, 10, .inl fu)) (hfd : C (x + 8) = .inl (0, 10, .inl fd)) (hy : C (y) = .inl (0, 4, .inl g)) {L : Int32} (hxy : y < x ∨ x + 8 < y) (h60 : sp < 60) (hj : g 0 = nI j) (hjb : j < 2 ^ 31) : gj_G md_Ra_take (d + 3) K N 0 0 0 [(0, .ref (x)), (1, .int (L)), (2, .ref (y))] [] n C (fun r => r.2.1 = n ∧ (∀ z, z < x ∨ x + 8 < z → r.2.2 z = C z) ∧ ((pr_ok L j (g 1) (g 2) (g 3) (la, ab, ut, ce, dv, mi, fu, fd, sp) ∧ r.1 = gj_iv 1 ∧ pr_M r.2.2 x (pr_nx L j (g 1) (g 2) (g 3) (la, ab, ut, ce, dv, mi, fu, fd, sp)) (nI (li + 1))) ∨ (¬ pr_ok L j (g 1) (g 2) (g 3) (la, ab, ut, ce, dv, mi, fu, fd, sp) ∧ r.1 = gj_iv 0 ∧ ∃ T2 l2, pr_M r.2.2 x T2 l2))) := by
  refine gj_aload_n d_Ra_take_0 rfl ?_
  refine gj_alen d_Ra_take_1 hy rfl ?_
  refine gj_top (y := 4) rfl ?_
  refine gj_kc (v := 4) d_Ra_take_2 (by decide) ?_
  refine gj_icmp_lt (tgt := 15) d_Ra_take_3 (by decide) (fun h3 => absurd h3 (by decide)) (fun h3 => ?_)
  refine gj_aload_n d_Ra_take_6 rfl ?_
  refine gj_iload_n d_Ra_take_7 rfl ?_
  refine gj_aload_n d_Ra_take_8 rfl ?_
  refine gj_callV (as := [.int (L), .ref (y)]) (rest := []) (K1 := 0) (N1 := 0) d_Ra_take_9 mo_Ra_takeKind gw_193 gw_195 gw_2 hx rfl pl_Ra_takeKind (Nat.le_of_ble_eq_true rfl) (Nat.le_of_ble_eq_true rfl) (Nat.zero_le _) (Nat.zero_le _) (c_Ra_takeKind hx hla hab hut hce hdv hmi hfu hfd hy hxy h60 hj hjb) (fun E n2 C2 _ h => ?_) (fun v n2 C2 _ h => ?_)
  · obtain ⟨-, -, h | h⟩ := h
    · exact nomatch h.2.1
    · exact nomatch h.2.1
  obtain ⟨hn, hfr, h | h⟩ := h
  · obtain ⟨h0, hv, hM⟩ := h
    dsimp only [gj_iv] at hv hn
    cases hv; cases hn
    obtain ⟨k0, k1, k2, k3, k4, k5, k6, k7, k8⟩ := hM
    refine gj_if_ne (tgt := 17) d_Ra_take_12 (by decide) (fun h12 => ?_) (fun h12 => absurd h12 (by decide))
    refine gj_aload_n d_Ra_take_17 rfl ?_
    refine gj_dup d_Ra_take_18 rfl ?_
    refine gj_get d_Ra_take_19 gf_Ra_39 k0 rfl ?_
    refine gj_kc (v := 1) d_Ra_take_22 (by decide) ?_
    refine gj_iadd d_Ra_take_23 ?_
    refine gj_top (y := nI (li + 1)) (nI_add (li) (1)) ?_
    refine gj_put d_Ra_take_24 gp_Ra_39 k0 (Nat.le_of_ble_eq_true rfl) (fun _ => rfl) (fun _ => rfl) ?_
    obtain ⟨C1, eC1⟩ : ∃ z, z = va_up C2 (x) (.inr (2, [.ref (x + 1), .ref (x + 2), .ref (x + 3), .ref (x + 4), .ref (x + 5), .ref (x + 6), .ref (x + 7), .ref (x + 8), .int (nI (li + 1)), .int (nI (pr_nx L j (g 1) (g 2) (g 3) (la, ab, ut, ce, dv, mi, fu, fd, sp)).2.2.2.2.2.2.2.2)])) := ⟨_, rfl⟩
    refine gj_mem eC1 ?_
    have f2 : C1 (x) = .inr (2, [.ref (x + 1), .ref (x + 2), .ref (x + 3), .ref (x + 4), .ref (x + 5), .ref (x + 6), .ref (x + 7), .ref (x + 8), .int (nI (li + 1)), .int (nI (pr_nx L j (g 1) (g 2) (g 3) (la, ab, ut, ce, dv, mi, fu, fd, sp)).2.2.2.2.2.2.2.2)]) := by rw [eC1]; exact va_up_self _ _ _
    have f3 : C1 (x + 1) = .inl (0, 60, .inl (pr_nx L j (g 1) (g 2) (g 3) (la, ab, ut, ce, dv, mi, fu, fd, sp)).1) := by rw [eC1, va_up_ne _ _ (by omega)]; exact k1
    have f4 : C1 (x + 2) = .inl (0, 60, .inl (pr_nx L j (g 1) (g 2) (g 3) (la, ab, ut, ce, dv, mi, fu, fd, sp)).2.1) := by rw [eC1, va_up_ne _ _ (by omega)]; exact k2
    have f5 : C1 (x + 3) = .inl (0, 60, .inl (pr_nx L j (g 1) (g 2) (g 3) (la, ab, ut, ce, dv, mi, fu, fd, sp)).2.2.1) := by rw [eC1, va_up_ne _ _ (by omega)]; exact k3
    have f6 : C1 (x + 4) = .inl (0, 60, .inl (pr_nx L j (g 1) (g 2) (g 3) (la, ab, ut, ce, dv, mi, fu, fd, sp)).2.2.2.1) := by rw [eC1, va_up_ne _ _ (by omega)]; exact k4
    have f7 : C1 (x + 5) = .inl (0, 10, .inl (pr_nx L j (g 1) (g 2) (g 3) (la, ab, ut, ce, dv, mi, fu, fd, sp)).2.2.2.2.1) := by rw [eC1, va_up_ne _ _ (by omega)]; exact k5
    have f8 : C1 (x + 6) = .inl (0, 10, .inl (pr_nx L j (g 1) (g 2) (g 3) (la, ab, ut, ce, dv, mi, fu, fd, sp)).2.2.2.2.2.1) := by rw [eC1, va_up_ne _ _ (by omega)]; exact k6
    have f9 : C1 (x + 7) = .inl (0, 10, .inl (pr_nx L j (g 1) (g 2) (g 3) (la, ab, ut, ce, dv, mi, fu, fd, sp)).2.2.2.2.2.2.1) := by rw [eC1, va_up_ne _ _ (by omega)]; exact k7
    have f10 : C1 (x + 8) = .inl (0, 10, .inl (pr_nx L j (g 1) (g 2) (g 3) (la, ab, ut, ce, dv, mi, fu, fd, sp)).2.2.2.2.2.2.2.1) := by rw [eC1, va_up_ne _ _ (by omega)]; exact k8
    refine gj_kc (v := 1) d_Ra_take_27 (by decide) ?_
    refine gj_zret rfl (by first | exact Or.inl rfl | exact Or.inr rfl) (Nat.zero_le _) (Nat.zero_le _) d_Ra_take_28 ?_
    exact ⟨rfl, fun z hz => by show C1 z = C z; rw [eC1, va_up_ne _ _ (by omega)]; exact hfr z hz, Or.inl ⟨h0, rfl, ⟨f2, f3, f4, f5, f6, f7, f8, f9, f10⟩⟩⟩
  · obtain ⟨h0, hv, T2, l2, hM⟩ := h
    dsimp only [gj_iv] at hv hn
    cases hv; cases hn
    refine gj_if_ne (tgt := 17) d_Ra_take_12 (by decide) (fun h12 => absurd (rfl) h12) (fun h12 => ?_)
    refine gj_kc (v := 0) d_Ra_take_15 (by decide) ?_
    refine gj_zret rfl (by first | exact Or.inl rfl | exact Or.inr rfl) (Nat.zero_le _) (Nat.zero_le _) d_Ra_take_16 ?_
    exact ⟨rfl, hfr, Or.inr ⟨h0, rfl, T2, l2, hM⟩⟩
