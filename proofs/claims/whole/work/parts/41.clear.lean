theorem nI_mul (a b : Nat) : nI a * nI b = nI (a * b) := (Int32.ofNat_mul a b).symm
section
variable {md : gj_M} {d K N k w pc : Nat} {lc : List (Nat × Value)} {st : List Value} {n : Nat} {C : Nat → va_E} {Q : gj_R → Prop}
theorem gj_iincN {i : Nat} {x : Nat} (hd : decode md.2.1 pc = .ok (.iinc i 1, 3)) (hk : gj_lk lc i = some (.int (nI x))) (hn : i < md.2.2.1) (kk : gj_G md d K N k w (pc + 3) (gj_st1 lc i (.int (nI (x + 1)))) st n C Q) : gj_G md d K N k w pc lc st n C Q := by
  rw [← nI_1] at kk
  exact gj_iinc hd hk hn kk
theorem gj_topv {v u : Value} (h : u = v) (kk : gj_G md d K N k w pc lc (v :: st) n C Q) : gj_G md d K N k w pc lc (u :: st) n C Q := h ▸ kk
end
theorem upd_self (f : Nat → Int32) (j : Nat) (v : Int32) : upd f j v j = v := by unfold upd; exact if_pos rfl
theorem upd_ne (f : Nat → Int32) {j i : Nat} (v : Int32) (h : i ≠ j) : upd f j v i = f i := by unfold upd; exact if_neg h
/-- the first i places are -1 -/
def pr_clr (f : Nat → Int32) (i : Nat) : Nat → Int32 := fun j => if j < i then -1 else f j
theorem pr_clr_0 (f : Nat → Int32) : pr_clr f 0 = f := by funext j; exact if_neg (Nat.not_lt_zero j)
theorem pr_clr_s (f : Nat → Int32) (i : Nat) : upd (pr_clr f i) i (-1) = pr_clr f (i + 1) := by
  funext j
  by_cases h : j = i
  · subst h; rw [upd_self]; exact (if_pos (Nat.lt_succ_self j)).symm
  · rw [upd_ne _ _ h]
    unfold pr_clr
    by_cases h2 : j < i
    · rw [if_pos h2, if_pos (by omega)]
    · rw [if_neg h2, if_neg (by omega)]
set_option maxHeartbeats 2000000 in
theorem c_Ra_clear_loop {d K N n x : Nat} {dv mi fu fd : Nat → Int32} {li sp : Int32} {Q : gj_R → Prop} : ∀ (m : Nat) (i : Nat) (C : Nat → va_E), i + m = 10 → C x = .inr (2, [.ref (x + 1), .ref (x + 2), .ref (x + 3), .ref (x + 4), .ref (x + 5), .ref (x + 6), .ref (x + 7), .ref (x + 8), .int (li), .int (sp)]) → C (x + 5) = .inl (0, 10, .inl (pr_clr dv i)) → C (x + 6) = .inl (0, 10, .inl (pr_clr mi i)) → C (x + 7) = .inl (0, 10, .inl (pr_clr fu i)) → C (x + 8) = .inl (0, 10, .inl (pr_clr fd i)) → (∀ C2, C2 x = .inr (2, [.ref (x + 1), .ref (x + 2), .ref (x + 3), .ref (x + 4), .ref (x + 5), .ref (x + 6), .ref (x + 7), .ref (x + 8), .int (li), .int (sp)]) → C2 (x + 5) = .inl (0, 10, .inl (pr_clr dv 10)) → C2 (x + 6) = .inl (0, 10, .inl (pr_clr mi 10)) → C2 (x + 7) = .inl (0, 10, .inl (pr_clr fu 10)) → C2 (x + 8) = .inl (0, 10, .inl (pr_clr fd 10)) → (∀ y, y ≠ x + 5 → y ≠ x + 6 → y ≠ x + 7 → y ≠ x + 8 → C2 y = C y) → Q (.inl none, n, C2)) → gj_G md_Ra_clear (d) K N 0 0 12 [(0, .ref (x)), (1, .int (nI i))] [] n C Q := by
  intro m
  induction m with
  | zero =>
    intro i C hi hx hdv hmi hfu hfd hend
    refine gj_iload_n d_Ra_clear_12 rfl ?_
    refine gj_kb (v := 10) d_Ra_clear_13 (by decide) ?_
    refine gj_icmp_ge (tgt := 52) d_Ra_clear_15 (by decide) (fun h15 => ?_) (fun h15 => by have m15 : ¬ (10 ≤ i) := fun q => h15 ((nI_leI (a := 10) (b := i) (by omega) (by omega)).mpr q); exact absurd (show 10 ≤ i from by omega) m15)
    have m15 : 10 ≤ i := (nI_leI (a := 10) (b := i) (by omega) (by omega)).mp h15
    refine gj_vret rfl (Nat.zero_le _) (Nat.zero_le _) d_Ra_clear_52 ?_
    have hi : i = 10 := by omega
    subst hi
    exact hend C hx hdv hmi hfu hfd (fun _ _ _ _ _ => rfl)
  | succ m ih =>
    intro i C hi hx hdv hmi hfu hfd hend
    refine gj_iload_n d_Ra_clear_12 rfl ?_
    refine gj_kb (v := 10) d_Ra_clear_13 (by decide) ?_
    refine gj_icmp_ge (tgt := 52) d_Ra_clear_15 (by decide) (fun h15 => by have m15 : 10 ≤ i := (nI_leI (a := 10) (b := i) (by omega) (by omega)).mp h15; exact absurd m15 (show ¬ (10 ≤ i) from by omega)) (fun h15 => ?_)
    have m15 : ¬ (10 ≤ i) := fun q => h15 ((nI_leI (a := 10) (b := i) (by omega) (by omega)).mpr q)
    refine gj_aload_n d_Ra_clear_18 rfl ?_
    refine gj_get d_Ra_clear_19 gf_Ra_24 hx rfl ?_
    refine gj_iload_n d_Ra_clear_22 rfl ?_
    refine gj_kc (v := (-1)) d_Ra_clear_23 (by decide) ?_
    refine gj_iast d_Ra_clear_24 hdv rfl (vp_in_nI (by omega) (by decide)) ?_
    obtain ⟨C1, eC1⟩ : ∃ z, z = va_up C (x + 5) (.inl (0, 10, .inl (upd (pr_clr dv i) (i) (-1)))) := ⟨_, rfl⟩
    refine gj_mem (eC1.trans (by rw [nI_clamp (by omega)])) ?_
    have f2 : C1 (x) = .inr (2, [.ref (x + 1), .ref (x + 2), .ref (x + 3), .ref (x + 4), .ref (x + 5), .ref (x + 6), .ref (x + 7), .ref (x + 8), .int (li), .int (sp)]) := by rw [eC1, va_up_ne _ _ (by omega)]; exact hx
    have f3 : C1 (x + 5) = .inl (0, 10, .inl (upd (pr_clr dv i) (i) (-1))) := by rw [eC1]; exact va_up_self _ _ _
    have f4 : C1 (x + 6) = .inl (0, 10, .inl (pr_clr mi i)) := by rw [eC1, va_up_ne _ _ (by omega)]; exact hmi
    have f5 : C1 (x + 7) = .inl (0, 10, .inl (pr_clr fu i)) := by rw [eC1, va_up_ne _ _ (by omega)]; exact hfu
    have f6 : C1 (x + 8) = .inl (0, 10, .inl (pr_clr fd i)) := by rw [eC1, va_up_ne _ _ (by omega)]; exact hfd
    refine gj_aload_n d_Ra_clear_25 rfl ?_
    refine gj_get d_Ra_clear_26 gf_Ra_27 f2 rfl ?_
    refine gj_iload_n d_Ra_clear_29 rfl ?_
    refine gj_kc (v := (-1)) d_Ra_clear_30 (by decide) ?_
    refine gj_iast d_Ra_clear_31 f4 rfl (vp_in_nI (by omega) (by decide)) ?_
    obtain ⟨C7, eC7⟩ : ∃ z, z = va_up C1 (x + 6) (.inl (0, 10, .inl (upd (pr_clr mi i) (i) (-1)))) := ⟨_, rfl⟩
    refine gj_mem (eC7.trans (by rw [nI_clamp (by omega)])) ?_
    have f8 : C7 (x) = .inr (2, [.ref (x + 1), .ref (x + 2), .ref (x + 3), .ref (x + 4), .ref (x + 5), .ref (x + 6), .ref (x + 7), .ref (x + 8), .int (li), .int (sp)]) := by rw [eC7, va_up_ne _ _ (by omega)]; exact f2
    have f9 : C7 (x + 5) = .inl (0, 10, .inl (upd (pr_clr dv i) (i) (-1))) := by rw [eC7, va_up_ne _ _ (by omega)]; exact f3
    have f10 : C7 (x + 6) = .inl (0, 10, .inl (upd (pr_clr mi i) (i) (-1))) := by rw [eC7]; exact va_up_self _ _ _
    have f11 : C7 (x + 7) = .inl (0, 10, .inl (pr_clr fu i)) := by rw [eC7, va_up_ne _ _ (by omega)]; exact f5
    have f12 : C7 (x + 8) = .inl (0, 10, .inl (pr_clr fd i)) := by rw [eC7, va_up_ne _ _ (by omega)]; exact f6
    refine gj_aload_n d_Ra_clear_32 rfl ?_
    refine gj_get d_Ra_clear_33 gf_Ra_30 f8 rfl ?_
    refine gj_iload_n d_Ra_clear_36 rfl ?_
    refine gj_kc (v := (-1)) d_Ra_clear_37 (by decide) ?_
    refine gj_iast d_Ra_clear_38 f11 rfl (vp_in_nI (by omega) (by decide)) ?_
    obtain ⟨C13, eC13⟩ : ∃ z, z = va_up C7 (x + 7) (.inl (0, 10, .inl (upd (pr_clr fu i) (i) (-1)))) := ⟨_, rfl⟩
    refine gj_mem (eC13.trans (by rw [nI_clamp (by omega)])) ?_
    have f14 : C13 (x) = .inr (2, [.ref (x + 1), .ref (x + 2), .ref (x + 3), .ref (x + 4), .ref (x + 5), .ref (x + 6), .ref (x + 7), .ref (x + 8), .int (li), .int (sp)]) := by rw [eC13, va_up_ne _ _ (by omega)]; exact f8
    have f15 : C13 (x + 5) = .inl (0, 10, .inl (upd (pr_clr dv i) (i) (-1))) := by rw [eC13, va_up_ne _ _ (by omega)]; exact f9
    have f16 : C13 (x + 6) = .inl (0, 10, .inl (upd (pr_clr mi i) (i) (-1))) := by rw [eC13, va_up_ne _ _ (by omega)]; exact f10
    have f17 : C13 (x + 7) = .inl (0, 10, .inl (upd (pr_clr fu i) (i) (-1))) := by rw [eC13]; exact va_up_self _ _ _
    have f18 : C13 (x + 8) = .inl (0, 10, .inl (pr_clr fd i)) := by rw [eC13, va_up_ne _ _ (by omega)]; exact f12
    refine gj_aload_n d_Ra_clear_39 rfl ?_
    refine gj_get d_Ra_clear_40 gf_Ra_33 f14 rfl ?_
    refine gj_iload_n d_Ra_clear_43 rfl ?_
    refine gj_kc (v := (-1)) d_Ra_clear_44 (by decide) ?_
    refine gj_iast d_Ra_clear_45 f18 rfl (vp_in_nI (by omega) (by decide)) ?_
    obtain ⟨C19, eC19⟩ : ∃ z, z = va_up C13 (x + 8) (.inl (0, 10, .inl (upd (pr_clr fd i) (i) (-1)))) := ⟨_, rfl⟩
    refine gj_mem (eC19.trans (by rw [nI_clamp (by omega)])) ?_
    have f20 : C19 (x) = .inr (2, [.ref (x + 1), .ref (x + 2), .ref (x + 3), .ref (x + 4), .ref (x + 5), .ref (x + 6), .ref (x + 7), .ref (x + 8), .int (li), .int (sp)]) := by rw [eC19, va_up_ne _ _ (by omega)]; exact f14
    have f21 : C19 (x + 5) = .inl (0, 10, .inl (upd (pr_clr dv i) (i) (-1))) := by rw [eC19, va_up_ne _ _ (by omega)]; exact f15
    have f22 : C19 (x + 6) = .inl (0, 10, .inl (upd (pr_clr mi i) (i) (-1))) := by rw [eC19, va_up_ne _ _ (by omega)]; exact f16
    have f23 : C19 (x + 7) = .inl (0, 10, .inl (upd (pr_clr fu i) (i) (-1))) := by rw [eC19, va_up_ne _ _ (by omega)]; exact f17
    have f24 : C19 (x + 8) = .inl (0, 10, .inl (upd (pr_clr fd i) (i) (-1))) := by rw [eC19]; exact va_up_self _ _ _
    refine gj_iincN d_Ra_clear_46 rfl (by decide) ?_
    refine gj_goto (tgt := 12) d_Ra_clear_49 (by decide) ?_
    refine gj_less (lc' := [(0, .ref (x)), (1, .int (nI (i + 1)))]) ⟨rfl, rfl, trivial⟩ ?_
    refine ih (i + 1) C19 (by omega) f20 (by rw [← pr_clr_s]; exact f21) (by rw [← pr_clr_s]; exact f22) (by rw [← pr_clr_s]; exact f23) (by rw [← pr_clr_s]; exact f24) (fun C2 e0 e1 e2 e3 e4 e5 => hend C2 e0 e1 e2 e3 e4 (fun y g1 g2 g3 g4 => (e5 y g1 g2 g3 g4).trans (by rw [eC19, va_up_ne _ _ g4, eC13, va_up_ne _ _ g3, eC7, va_up_ne _ _ g2, eC1, va_up_ne _ _ g1])))
set_option maxHeartbeats 2000000 in
theorem c_Ra_clear {d K N n x : Nat} {C : Nat → va_E} {dv mi fu fd : Nat → Int32} {li sp : Int32} (hx : C (x) = .inr (2, [.ref (x + 1), .ref (x + 2), .ref (x + 3), .ref (x + 4), .ref (x + 5), .ref (x + 6), .ref (x + 7), .ref (x + 8), .int (li), .int (sp)])) (hdv : C (x + 5) = .inl (0, 10, .inl dv)) (hmi : C (x + 6) = .inl (0, 10, .inl mi)) (hfu : C (x + 7) = .inl (0, 10, .inl fu)) (hfd : C (x + 8) = .inl (0, 10, .inl fd)) : gj_G md_Ra_clear (d) K N 0 0 0 [(0, .ref (x))] [] n C (fun r => r.1 = .inl none ∧ r.2.1 = n ∧ r.2.2 x = .inr (2, [.ref (x + 1), .ref (x + 2), .ref (x + 3), .ref (x + 4), .ref (x + 5), .ref (x + 6), .ref (x + 7), .ref (x + 8), .int (0), .int (0)]) ∧ r.2.2 (x + 5) = .inl (0, 10, .inl (pr_clr dv 10)) ∧ r.2.2 (x + 6) = .inl (0, 10, .inl (pr_clr mi 10)) ∧ r.2.2 (x + 7) = .inl (0, 10, .inl (pr_clr fu 10)) ∧ r.2.2 (x + 8) = .inl (0, 10, .inl (pr_clr fd 10)) ∧ ∀ y, y ≠ x → y ≠ x + 5 → y ≠ x + 6 → y ≠ x + 7 → y ≠ x + 8 → r.2.2 y = C y) := by
  refine gj_aload_n d_Ra_clear_0 rfl ?_
  refine gj_kc (v := 0) d_Ra_clear_1 (by decide) ?_
  refine gj_put d_Ra_clear_2 gp_Ra_39 hx (Nat.le_of_ble_eq_true rfl) (fun _ => rfl) (fun _ => rfl) ?_
  obtain ⟨C1, eC1⟩ : ∃ z, z = va_up C (x) (.inr (2, [.ref (x + 1), .ref (x + 2), .ref (x + 3), .ref (x + 4), .ref (x + 5), .ref (x + 6), .ref (x + 7), .ref (x + 8), .int (0), .int (sp)])) := ⟨_, rfl⟩
  refine gj_mem eC1 ?_
  have f2 : C1 (x) = .inr (2, [.ref (x + 1), .ref (x + 2), .ref (x + 3), .ref (x + 4), .ref (x + 5), .ref (x + 6), .ref (x + 7), .ref (x + 8), .int (0), .int (sp)]) := by rw [eC1]; exact va_up_self _ _ _
  have f3 : C1 (x + 5) = .inl (0, 10, .inl dv) := by rw [eC1, va_up_ne _ _ (by omega)]; exact hdv
  have f4 : C1 (x + 6) = .inl (0, 10, .inl mi) := by rw [eC1, va_up_ne _ _ (by omega)]; exact hmi
  have f5 : C1 (x + 7) = .inl (0, 10, .inl fu) := by rw [eC1, va_up_ne _ _ (by omega)]; exact hfu
  have f6 : C1 (x + 8) = .inl (0, 10, .inl fd) := by rw [eC1, va_up_ne _ _ (by omega)]; exact hfd
  refine gj_aload_n d_Ra_clear_5 rfl ?_
  refine gj_kc (v := 0) d_Ra_clear_6 (by decide) ?_
  refine gj_put d_Ra_clear_7 gp_Ra_43 f2 (Nat.le_of_ble_eq_true rfl) (fun _ => rfl) (fun _ => rfl) ?_
  obtain ⟨C7, eC7⟩ : ∃ z, z = va_up C1 (x) (.inr (2, [.ref (x + 1), .ref (x + 2), .ref (x + 3), .ref (x + 4), .ref (x + 5), .ref (x + 6), .ref (x + 7), .ref (x + 8), .int (0), .int (0)])) := ⟨_, rfl⟩
  refine gj_mem eC7 ?_
  have f8 : C7 (x) = .inr (2, [.ref (x + 1), .ref (x + 2), .ref (x + 3), .ref (x + 4), .ref (x + 5), .ref (x + 6), .ref (x + 7), .ref (x + 8), .int (0), .int (0)]) := by rw [eC7]; exact va_up_self _ _ _
  have f9 : C7 (x + 5) = .inl (0, 10, .inl dv) := by rw [eC7, va_up_ne _ _ (by omega)]; exact f3
  have f10 : C7 (x + 6) = .inl (0, 10, .inl mi) := by rw [eC7, va_up_ne _ _ (by omega)]; exact f4
  have f11 : C7 (x + 7) = .inl (0, 10, .inl fu) := by rw [eC7, va_up_ne _ _ (by omega)]; exact f5
  have f12 : C7 (x + 8) = .inl (0, 10, .inl fd) := by rw [eC7, va_up_ne _ _ (by omega)]; exact f6
  refine gj_kc (v := 0) d_Ra_clear_10 (by decide) ?_
  refine gj_istore_n d_Ra_clear_11 (by decide) ?_
  refine gj_less (lc' := [(0, .ref (x)), (1, .int (nI 0))]) ⟨rfl, rfl, trivial⟩ ?_
  refine c_Ra_clear_loop (dv := dv) (mi := mi) (fu := fu) (fd := fd) 10 0 C7 (by omega) f8 (by rw [pr_clr_0]; exact f9) (by rw [pr_clr_0]; exact f10) (by rw [pr_clr_0]; exact f11) (by rw [pr_clr_0]; exact f12) (fun C2 e0 e1 e2 e3 e4 e5 => ⟨rfl, rfl, e0, e1, e2, e3, e4, fun y g0 g1 g2 g3 g4 => (e5 y g1 g2 g3 g4).trans (by rw [eC7, va_up_ne _ _ g0, eC1, va_up_ne _ _ g0])⟩)
