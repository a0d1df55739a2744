/-! RateBreaks.Ratios -/
theorem nI_m1 {j : Nat} (h : j < 2 ^ 31) : ¬ nI j = -1 := by
  intro e
  have := congrArg Int32.toInt e
  have e2 : (-1 : Int32).toInt = -1 := by decide
  rw [nI_toInt h, e2] at this
  omega
theorem nI_max {a b : Nat} (ha : a < 2 ^ 31) (hb : b < 2 ^ 31) : (if nI a < nI b then nI b else nI a) = nI (max a b) := by
  by_cases h : a < b
  · rw [if_pos ((nI_ltI ha hb).mpr h), Nat.max_eq_right (by omega)]
  · rw [if_neg (fun q => h ((nI_ltI ha hb).mp q)), Nat.max_eq_left (by omega)]
/-- the place of v among the first ones, or behind them -/
def pf_pl (f : Nat → Int32) (v : Int32) : Nat → Nat → Nat
  | 0, i => i
  | m + 1, i => if f i = v then i else pf_pl f v m (i + 1)
theorem pf_pl_le (f : Nat → Int32) (v : Int32) : ∀ m i, i ≤ pf_pl f v m i ∧ pf_pl f v m i ≤ i + m
  | 0, i => ⟨Nat.le_refl i, Nat.le_refl i⟩
  | m + 1, i => by
    unfold pf_pl
    split
    · omega
    · have := pf_pl_le f v m (i + 1)
      omega
def pf_cd : Option Nat → Int32
  | none => -1
  | some j => nI j
def pf_gt (f : Nat → Int32) (i : Nat) : Option Nat → Prop
  | none => True
  | some j => f j < f i
noncomputable def pf_la (f : Nat → Int32) (v : Int32) : Nat → Nat → Option Nat → Option Nat
  | 0, _, b => b
  | m + 1, i, b => pf_la f v m (i + 1) (@ite _ (f i ≤ v ∧ pf_gt f i b) (Classical.propDecidable _) (some i) b)
theorem pf_la_lt (f : Nat → Int32) (v : Int32) : ∀ m i b, (∀ j, b = some j → j < i) → ∀ j, pf_la f v m i b = some j → j < i + m
  | 0, _, _, h, j, e => h j e
  | m + 1, i, b, h, j, e => by
    have := pf_la_lt f v m (i + 1) (@ite _ (f i ≤ v ∧ pf_gt f i b) (Classical.propDecidable _) (some i) b) (fun k ek => by
      split at ek
      · cases ek; omega
      · have := h k ek; omega) j e
    omega
set_option maxHeartbeats 2000000 in
theorem c_Ro_placeFor_loop {d K N n x sz L : Nat} {C : Nat → va_E} {fr : Nat → Int32} (hx : C (x) = .inr (3, [.ref (x + 1), .ref (x + 2), .ref (x + 3), .int (nI sz)])) (hf : C (x + 1) = .inl (0, L, .inl fr)) (hs : sz ≤ L) (hL : L ≤ 8) {v : Int32} {Q : gj_R → Prop} : ∀ (m : Nat) (i : Nat), i + m = sz → Q (gj_iv (nI (pf_pl fr v m i)), n, C) → gj_G md_Ro_placeFor (d) K N 0 0 2 [(0, .ref (x)), (1, .int (v)), (2, .int (nI i))] [] n C Q := by
  intro m
  induction m with
  | zero =>
    intro i hi hend
    refine gj_iload_n d_Ro_placeFor_2 rfl ?_
    refine gj_aload_n d_Ro_placeFor_3 rfl ?_
    refine gj_get d_Ro_placeFor_4 gf_Ro_9 hx rfl ?_
    refine gj_icmp_ge (tgt := 26) d_Ro_placeFor_7 (by decide) (fun h7 => ?_) (fun h7 => by have m7 : ¬ (sz ≤ i) := fun q => h7 ((nI_leI (a := sz) (b := i) (by omega) (by omega)).mpr q); exact absurd (show sz ≤ i from by omega) m7)
    have m7 : sz ≤ i := (nI_leI (a := sz) (b := i) (by omega) (by omega)).mp h7
    refine gj_iload_n d_Ro_placeFor_26 rfl ?_
    refine gj_iret rfl (Nat.zero_le _) (Nat.zero_le _) d_Ro_placeFor_27 ?_
    exact hend
  | succ m ih =>
    intro i hi hend
    refine gj_iload_n d_Ro_placeFor_2 rfl ?_
    refine gj_aload_n d_Ro_placeFor_3 rfl ?_
    refine gj_get d_Ro_placeFor_4 gf_Ro_9 hx rfl ?_
    refine gj_icmp_ge (tgt := 26) d_Ro_placeFor_7 (by decide) (fun h7 => by have m7 : sz ≤ i := (nI_leI (a := sz) (b := i) (by omega) (by omega)).mp h7; exact absurd m7 (show ¬ (sz ≤ i) from by omega)) (fun h7 => ?_)
    have m7 : ¬ (sz ≤ i) := fun q => h7 ((nI_leI (a := sz) (b := i) (by omega) (by omega)).mpr q)
    refine gj_aload_n d_Ro_placeFor_10 rfl ?_
    refine gj_get d_Ro_placeFor_11 gf_Ro_21 hx rfl ?_
    refine gj_iload_n d_Ro_placeFor_14 rfl ?_
    refine gj_iald d_Ro_placeFor_15 hf rfl (vp_in_nI (by omega) (by omega)) ?_
    refine gj_top (y := fr (i)) (congrArg fr (nI_clamp (by omega))) ?_
    refine gj_iload_n d_Ro_placeFor_16 rfl ?_
    refine gj_icmp_eq (tgt := 26) d_Ro_placeFor_17 (by decide) (fun h17 => ?_) (fun h17 => ?_)
    · refine gj_iload_n d_Ro_placeFor_26 rfl ?_
      refine gj_iret rfl (Nat.zero_le _) (Nat.zero_le _) d_Ro_placeFor_27 ?_
      have e : pf_pl fr v (m + 1) i = i := if_pos h17
      rw [e] at hend; exact hend
    · refine gj_iincN d_Ro_placeFor_20 rfl (by decide) ?_
      refine gj_goto (tgt := 2) d_Ro_placeFor_23 (by decide) ?_
      refine gj_less (lc' := [(0, .ref (x)), (1, .int (v)), (2, .int (nI (i + 1)))]) ⟨rfl, rfl, rfl, trivial⟩ ?_
      refine ih (i + 1) (by omega) ?_
      have e : pf_pl fr v (m + 1) i = pf_pl fr v m (i + 1) := if_neg h17
      rw [← e]; exact hend
set_option maxHeartbeats 2000000 in
theorem c_Ro_placeFor {d K N n x sz L : Nat} {C : Nat → va_E} {fr : Nat → Int32} (hx : C (x) = .inr (3, [.ref (x + 1), .ref (x + 2), .ref (x + 3), .int (nI sz)])) (hf : C (x + 1) = .inl (0, L, .inl fr)) (hs : sz ≤ L) (hL : L ≤ 8) {v : Int32} : gj_G md_Ro_placeFor (d) K N 0 0 0 [(0, .ref (x)), (1, .int (v))] [] n C (fun r => r = (gj_iv (nI (pf_pl fr v sz 0)), n, C)) := by
  refine gj_kc (v := 0) d_Ro_placeFor_0 (by decide) ?_
  refine gj_istore_n d_Ro_placeFor_1 (by decide) ?_
  refine gj_less (lc' := [(0, .ref (x)), (1, .int (v)), (2, .int (nI 0))]) ⟨rfl, rfl, rfl, trivial⟩ ?_
  exact c_Ro_placeFor_loop hx hf hs hL sz 0 (by omega) rfl
set_option maxHeartbeats 2000000 in
theorem c_Ro_hasRoomFor {d K N n x sz L : Nat} {C : Nat → va_E} {fr : Nat → Int32} (hx : C (x) = .inr (3, [.ref (x + 1), .ref (x + 2), .ref (x + 3), .int (nI sz)])) (hf : C (x + 1) = .inl (0, L, .inl fr)) (hs : sz ≤ L) (hL : L ≤ 8) {v : Int32} : gj_G md_Ro_hasRoomFor (d + 1) K N 0 0 0 [(0, .ref (x)), (1, .int (v))] [] n C (fun r => r = (gj_iv (if pf_pl fr v sz 0 < L then 1 else 0), n, C)) := by
  refine gj_aload_n d_Ro_hasRoomFor_0 rfl ?_
  refine gj_iload_n d_Ro_hasRoomFor_1 rfl ?_
  have hp := pf_pl_le fr v sz 0
  refine gj_callV (as := [.int (v)]) (rest := []) (K1 := 0) (N1 := 0) d_Ro_hasRoomFor_2 mo_Ro_placeFor gw_497 gw_499 gw_8 hx rfl pl_Ro_placeFor (Nat.le_of_ble_eq_true rfl) (Nat.le_of_ble_eq_true rfl) (Nat.zero_le _) (Nat.zero_le _) (c_Ro_placeFor hx hf hs hL) (fun E n' C' _ h => by cases h) (fun v n' C' _ h => ?_)
  cases h
  refine gj_aload_n d_Ro_hasRoomFor_5 rfl ?_
  refine gj_get d_Ro_hasRoomFor_6 gf_Ro_21 hx rfl ?_
  refine gj_alen d_Ro_hasRoomFor_9 hf rfl ?_
  refine gj_top (y := nI L) rfl ?_
  refine gj_icmp_ge (tgt := 17) d_Ro_hasRoomFor_10 (by decide) (fun h10 => ?_) (fun h10 => ?_)
  · have m10 : L ≤ pf_pl fr v sz 0 := (nI_leI (a := L) (b := pf_pl fr v sz 0) (by omega) (by omega)).mp h10
    refine gj_kc (v := 0) d_Ro_hasRoomFor_17 (by decide) ?_
    refine gj_zret rfl (by first | exact Or.inl rfl | exact Or.inr rfl) (Nat.zero_le _) (Nat.zero_le _) d_Ro_hasRoomFor_18 ?_
    exact gj_ei (if_neg (by omega)).symm
  · have m10 : ¬ (L ≤ pf_pl fr v sz 0) := fun q => h10 ((nI_leI (a := L) (b := pf_pl fr v sz 0) (by omega) (by omega)).mpr q)
    refine gj_kc (v := 1) d_Ro_hasRoomFor_13 (by decide) ?_
    refine gj_goto (tgt := 18) d_Ro_hasRoomFor_14 (by decide) ?_
    refine gj_zret rfl (by first | exact Or.inl rfl | exact Or.inr rfl) (Nat.zero_le _) (Nat.zero_le _) d_Ro_hasRoomFor_18 ?_
    exact gj_ei (if_pos (by omega)).symm
set_option maxHeartbeats 2000000 in
theorem c_Ro_put {d K N n x sz L : Nat} {C : Nat → va_E} {fr up dn : Nat → Int32} (hx : C (x) = .inr (3, [.ref (x + 1), .ref (x + 2), .ref (x + 3), .int (nI sz)])) (hf : C (x + 1) = .inl (0, L, .inl fr)) (hu : C (x + 2) = .inl (0, L, .inl up)) (hd : C (x + 3) = .inl (0, L, .inl dn)) (hs : sz ≤ L) (hL : L ≤ 8) {v a b : Int32} (hr : pf_pl fr v sz 0 < L) : gj_G md_Ro_put (d + 1) K N 0 0 0 [(0, .ref (x)), (1, .int (v)), (2, .int (a)), (3, .int (b))] [] n C (fun r => r.1 = .inl none ∧ r.2.1 = n ∧ r.2.2 x = .inr (3, [.ref (x + 1), .ref (x + 2), .ref (x + 3), .int (nI (max sz (pf_pl fr v sz 0 + 1)))]) ∧ r.2.2 (x + 1) = .inl (0, L, .inl (upd fr (pf_pl fr v sz 0) v)) ∧ r.2.2 (x + 2) = .inl (0, L, .inl (upd up (pf_pl fr v sz 0) a)) ∧ r.2.2 (x + 3) = .inl (0, L, .inl (upd dn (pf_pl fr v sz 0) b)) ∧ ∀ y, y ≠ x → y ≠ x + 1 → y ≠ x + 2 → y ≠ x + 3 → r.2.2 y = C y) := by
  refine gj_aload_n d_Ro_put_0 rfl ?_
  refine gj_iload_n d_Ro_put_1 rfl ?_
  have hp := pf_pl_le fr v sz 0
  refine gj_callV (as := [.int (v)]) (rest := []) (K1 := 0) (N1 := 0) d_Ro_put_2 mo_Ro_placeFor gw_497 gw_499 gw_8 hx rfl pl_Ro_placeFor (Nat.le_of_ble_eq_true rfl) (Nat.le_of_ble_eq_true rfl) (Nat.zero_le _) (Nat.zero_le _) (c_Ro_placeFor hx hf hs hL) (fun E n' C' _ h => by cases h) (fun v n' C' _ h => ?_)
  cases h
  refine gj_istore d_Ro_put_5 (by decide) ?_
  refine gj_iload d_Ro_put_7 rfl ?_
  refine gj_aload_n d_Ro_put_9 rfl ?_
  refine gj_get d_Ro_put_10 gf_Ro_21 hx rfl ?_
  refine gj_alen d_Ro_put_13 hf rfl ?_
  refine gj_top (y := nI L) rfl ?_
  refine gj_icmp_lt (tgt := 18) d_Ro_put_14 (by decide) (fun h14 => ?_) (fun h14 => by have m14 : ¬ (pf_pl fr v sz 0 < L) := fun q => h14 ((nI_ltI (a := pf_pl fr v sz 0) (b := L) (by omega) (by omega)).mpr q); exact absurd (show pf_pl fr v sz 0 < L from by omega) m14)
  have m14 : pf_pl fr v sz 0 < L := (nI_ltI (a := pf_pl fr v sz 0) (b := L) (by omega) (by omega)).mp h14
  refine gj_aload_n d_Ro_put_18 rfl ?_
  refine gj_get d_Ro_put_19 gf_Ro_21 hx rfl ?_
  refine gj_iload d_Ro_put_22 rfl ?_
  refine gj_iload_n d_Ro_put_24 rfl ?_
  refine gj_iast d_Ro_put_25 hf rfl (vp_in_nI (by omega) (by omega)) ?_
  obtain ⟨C1, eC1⟩ : ∃ z, z = va_up C (x + 1) (.inl (0, L, .inl (upd fr (pf_pl fr v sz 0) (v)))) := ⟨_, rfl⟩
  refine gj_mem (eC1.trans (by rw [nI_clamp (by omega)])) ?_
  have f2 : C1 (x) = .inr (3, [.ref (x + 1), .ref (x + 2), .ref (x + 3), .int (nI sz)]) := by rw [eC1, va_up_ne _ _ (by omega)]; exact hx
  have f3 : C1 (x + 1) = .inl (0, L, .inl (upd fr (pf_pl fr v sz 0) (v))) := by rw [eC1]; exact va_up_self _ _ _
  have f4 : C1 (x + 2) = .inl (0, L, .inl up) := by rw [eC1, va_up_ne _ _ (by omega)]; exact hu
  have f5 : C1 (x + 3) = .inl (0, L, .inl dn) := by rw [eC1, va_up_ne _ _ (by omega)]; exact hd
  refine gj_aload_n d_Ro_put_26 rfl ?_
  refine gj_get d_Ro_put_27 gf_Ro_25 f2 rfl ?_
  refine gj_iload d_Ro_put_30 rfl ?_
  refine gj_iload_n d_Ro_put_32 rfl ?_
  refine gj_iast d_Ro_put_33 f4 rfl (vp_in_nI (by omega) (by omega)) ?_
  obtain ⟨C6, eC6⟩ : ∃ z, z = va_up C1 (x + 2) (.inl (0, L, .inl (upd up (pf_pl fr v sz 0) (a)))) := ⟨_, rfl⟩
  refine gj_mem (eC6.trans (by rw [nI_clamp (by omega)])) ?_
  have f7 : C6 (x) = .inr (3, [.ref (x + 1), .ref (x + 2), .ref (x + 3), .int (nI sz)]) := by rw [eC6, va_up_ne _ _ (by omega)]; exact f2
  have f8 : C6 (x + 1) = .inl (0, L, .inl (upd fr (pf_pl fr v sz 0) (v))) := by rw [eC6, va_up_ne _ _ (by omega)]; exact f3
  have f9 : C6 (x + 2) = .inl (0, L, .inl (upd up (pf_pl fr v sz 0) (a))) := by rw [eC6]; exact va_up_self _ _ _
  have f10 : C6 (x + 3) = .inl (0, L, .inl dn) := by rw [eC6, va_up_ne _ _ (by omega)]; exact f5
  refine gj_aload_n d_Ro_put_34 rfl ?_
  refine gj_get d_Ro_put_35 gf_Ro_28 f7 rfl ?_
  refine gj_iload d_Ro_put_38 rfl ?_
  refine gj_iload_n d_Ro_put_40 rfl ?_
  refine gj_iast d_Ro_put_41 f10 rfl (vp_in_nI (by omega) (by omega)) ?_
  obtain ⟨C11, eC11⟩ : ∃ z, z = va_up C6 (x + 3) (.inl (0, L, .inl (upd dn (pf_pl fr v sz 0) (b)))) := ⟨_, rfl⟩
  refine gj_mem (eC11.trans (by rw [nI_clamp (by omega)])) ?_
  have f12 : C11 (x) = .inr (3, [.ref (x + 1), .ref (x + 2), .ref (x + 3), .int (nI sz)]) := by rw [eC11, va_up_ne _ _ (by omega)]; exact f7
  have f13 : C11 (x + 1) = .inl (0, L, .inl (upd fr (pf_pl fr v sz 0) (v))) := by rw [eC11, va_up_ne _ _ (by omega)]; exact f8
  have f14 : C11 (x + 2) = .inl (0, L, .inl (upd up (pf_pl fr v sz 0) (a))) := by rw [eC11, va_up_ne _ _ (by omega)]; exact f9
  have f15 : C11 (x + 3) = .inl (0, L, .inl (upd dn (pf_pl fr v sz 0) (b))) := by rw [eC11]; exact va_up_self _ _ _
  refine gj_aload_n d_Ro_put_42 rfl ?_
  refine gj_aload_n d_Ro_put_43 rfl ?_
  refine gj_get d_Ro_put_44 gf_Ro_9 f12 rfl ?_
  refine gj_iload d_Ro_put_47 rfl ?_
  refine gj_kc (v := 1) d_Ro_put_49 (by decide) ?_
  refine gj_iadd d_Ro_put_50 ?_
  refine gj_top (y := nI ((pf_pl fr v sz 0) + 1)) (nI_add (pf_pl fr v sz 0) (1)) ?_
  refine gj_max d_Ro_put_51 gw_117 gw_118 gw_24 gw_119 (Nat.le_of_ble_eq_true rfl) (Nat.zero_le _) (Nat.zero_le _) ?_
  refine gj_top (y := nI (max sz (pf_pl fr v sz 0 + 1))) (nI_max (by omega) (by omega)) ?_
  refine gj_put d_Ro_put_54 gp_Ro_9 f12 (Nat.le_of_ble_eq_true rfl) (fun _ => rfl) (fun _ => rfl) ?_
  obtain ⟨C16, eC16⟩ : ∃ z, z = va_up C11 (x) (.inr (3, [.ref (x + 1), .ref (x + 2), .ref (x + 3), .int (nI (max sz (pf_pl fr v sz 0 + 1)))])) := ⟨_, rfl⟩
  refine gj_mem eC16 ?_
  have f17 : C16 (x) = .inr (3, [.ref (x + 1), .ref (x + 2), .ref (x + 3), .int (nI (max sz (pf_pl fr v sz 0 + 1)))]) := by rw [eC16]; exact va_up_self _ _ _
  have f18 : C16 (x + 1) = .inl (0, L, .inl (upd fr (pf_pl fr v sz 0) (v))) := by rw [eC16, va_up_ne _ _ (by omega)]; exact f13
  have f19 : C16 (x + 2) = .inl (0, L, .inl (upd up (pf_pl fr v sz 0) (a))) := by rw [eC16, va_up_ne _ _ (by omega)]; exact f14
  have f20 : C16 (x + 3) = .inl (0, L, .inl (upd dn (pf_pl fr v sz 0) (b))) := by rw [eC16, va_up_ne _ _ (by omega)]; exact f15
  refine gj_vret rfl (Nat.zero_le _) (Nat.zero_le _) d_Ro_put_57 ?_
  exact ⟨rfl, rfl, f17, f18, f19, f20, fun y g0 g1 g2 g3 => by show C16 y = C y; rw [eC16, va_up_ne _ _ g0, eC11, va_up_ne _ _ g3, eC6, va_up_ne _ _ g2, eC1, va_up_ne _ _ g1]⟩
set_option maxHeartbeats 2000000 in
theorem c_Ro_latest_loop {d K N n x sz L : Nat} {C : Nat → va_E} {fr : Nat → Int32} (hx : C (x) = .inr (3, [.ref (x + 1), .ref (x + 2), .ref (x + 3), .int (nI sz)])) (hf : C (x + 1) = .inl (0, L, .inl fr)) (hs : sz ≤ L) (hL : L ≤ 8) {v : Int32} {Q : gj_R → Prop} : ∀ (m : Nat) (i : Nat) (b : Option Nat), i + m = sz → (∀ j, b = some j → j < i) → Q (gj_iv (pf_cd (pf_la fr v m i b)), n, C) → gj_G md_Ro_latest (d) K N 0 0 4 [(0, .ref (x)), (1, .int (v)), (2, .int (pf_cd b)), (3, .int (nI i))] [] n C Q := by
  intro m
  induction m with
  | zero =>
    intro i b hi hb hend
    refine gj_iload_n d_Ro_latest_4 rfl ?_
    refine gj_aload_n d_Ro_latest_5 rfl ?_
    refine gj_get d_Ro_latest_6 gf_Ro_9 hx rfl ?_
    refine gj_icmp_ge (tgt := 50) d_Ro_latest_9 (by decide) (fun h9 => ?_) (fun h9 => by have m9 : ¬ (sz ≤ i) := fun q => h9 ((nI_leI (a := sz) (b := i) (by omega) (by omega)).mpr q); exact absurd (show sz ≤ i from by omega) m9)
    have m9 : sz ≤ i := (nI_leI (a := sz) (b := i) (by omega) (by omega)).mp h9
    refine gj_iload_n d_Ro_latest_50 rfl ?_
    refine gj_iret rfl (Nat.zero_le _) (Nat.zero_le _) d_Ro_latest_51 ?_
    exact hend
  | succ m ih =>
    intro i b hi hb hend
    rcases b with _ | j
    · refine gj_less (lc' := [(0, .ref (x)), (1, .int (v)), (2, .int (-1)), (3, .int (nI i))]) ⟨rfl, rfl, rfl, rfl, trivial⟩ ?_
      refine gj_iload_n d_Ro_latest_4 rfl ?_
      refine gj_aload_n d_Ro_latest_5 rfl ?_
      refine gj_get d_Ro_latest_6 gf_Ro_9 hx rfl ?_
      refine gj_icmp_ge (tgt := 50) d_Ro_latest_9 (by decide) (fun h9 => by have m9 : sz ≤ i := (nI_leI (a := sz) (b := i) (by omega) (by omega)).mp h9; exact absurd m9 (show ¬ (sz ≤ i) from by omega)) (fun h9 => ?_)
      have m9 : ¬ (sz ≤ i) := fun q => h9 ((nI_leI (a := sz) (b := i) (by omega) (by omega)).mpr q)
      refine gj_aload_n d_Ro_latest_12 rfl ?_
      refine gj_get d_Ro_latest_13 gf_Ro_21 hx rfl ?_
      refine gj_iload_n d_Ro_latest_16 rfl ?_
      refine gj_iald d_Ro_latest_17 hf rfl (vp_in_nI (by omega) (by omega)) ?_
      refine gj_top (y := fr (i)) (congrArg fr (nI_clamp (by omega))) ?_
      refine gj_iload_n d_Ro_latest_18 rfl ?_
      refine gj_icmp_gt (tgt := 44) d_Ro_latest_19 (by decide) (fun h19 => ?_) (fun h19 => ?_)
      · refine gj_iincN d_Ro_latest_44 rfl (by decide) ?_
        refine gj_goto (tgt := 4) d_Ro_latest_47 (by decide) ?_
        refine gj_less (lc' := [(0, .ref (x)), (1, .int (v)), (2, .int (-1)), (3, .int (nI (i + 1)))]) ⟨rfl, rfl, rfl, rfl, trivial⟩ ?_
        refine ih (i + 1) none (by omega) (fun k hk => by cases hk) ?_
        have e : (@ite _ (fr i ≤ v ∧ pf_gt fr i none) (Classical.propDecidable _) (some i) none) = none := if_neg (fun q => by first | exact absurd h19 (Int32.not_lt.mpr q.1) | exact absurd h39 (Int32.not_le.mpr q.2))
        rw [← e]; exact hend
      · refine gj_iload_n d_Ro_latest_22 rfl ?_
        refine gj_kc (v := (-1)) d_Ro_latest_23 (by decide) ?_
        refine gj_icmp_eq (tgt := 42) d_Ro_latest_24 (by decide) (fun h24 => ?_) (fun h24 => absurd (rfl) h24)
        refine gj_iload_n d_Ro_latest_42 rfl ?_
        refine gj_istore_n d_Ro_latest_43 (by decide) ?_
        refine gj_iincN d_Ro_latest_44 rfl (by decide) ?_
        refine gj_goto (tgt := 4) d_Ro_latest_47 (by decide) ?_
        refine gj_less (lc' := [(0, .ref (x)), (1, .int (v)), (2, .int (nI i)), (3, .int (nI (i + 1)))]) ⟨rfl, rfl, rfl, rfl, trivial⟩ ?_
        refine ih (i + 1) (some i) (by omega) (fun k hk => by cases hk; omega) ?_
        have e : (@ite _ (fr i ≤ v ∧ pf_gt fr i none) (Classical.propDecidable _) (some i) none) = (some i) := if_pos ⟨Int32.not_lt.mp h19, trivial⟩
        rw [← e]; exact hend
    · have hj := hb j rfl
      refine gj_less (lc' := [(0, .ref (x)), (1, .int (v)), (2, .int (nI j)), (3, .int (nI i))]) ⟨rfl, rfl, rfl, rfl, trivial⟩ ?_
      refine gj_iload_n d_Ro_latest_4 rfl ?_
      refine gj_aload_n d_Ro_latest_5 rfl ?_
      refine gj_get d_Ro_latest_6 gf_Ro_9 hx rfl ?_
      refine gj_icmp_ge (tgt := 50) d_Ro_latest_9 (by decide) (fun h9 => by have m9 : sz ≤ i := (nI_leI (a := sz) (b := i) (by omega) (by omega)).mp h9; exact absurd m9 (show ¬ (sz ≤ i) from by omega)) (fun h9 => ?_)
      have m9 : ¬ (sz ≤ i) := fun q => h9 ((nI_leI (a := sz) (b := i) (by omega) (by omega)).mpr q)
      refine gj_aload_n d_Ro_latest_12 rfl ?_
      refine gj_get d_Ro_latest_13 gf_Ro_21 hx rfl ?_
      refine gj_iload_n d_Ro_latest_16 rfl ?_
      refine gj_iald d_Ro_latest_17 hf rfl (vp_in_nI (by omega) (by omega)) ?_
      refine gj_top (y := fr (i)) (congrArg fr (nI_clamp (by omega))) ?_
      refine gj_iload_n d_Ro_latest_18 rfl ?_
      refine gj_icmp_gt (tgt := 44) d_Ro_latest_19 (by decide) (fun h19 => ?_) (fun h19 => ?_)
      · refine gj_iincN d_Ro_latest_44 rfl (by decide) ?_
        refine gj_goto (tgt := 4) d_Ro_latest_47 (by decide) ?_
        refine gj_less (lc' := [(0, .ref (x)), (1, .int (v)), (2, .int (nI j)), (3, .int (nI (i + 1)))]) ⟨rfl, rfl, rfl, rfl, trivial⟩ ?_
        refine ih (i + 1) (some j) (by omega) (fun k hk => by cases hk; omega) ?_
        have e : (@ite _ (fr i ≤ v ∧ pf_gt fr i (some j)) (Classical.propDecidable _) (some i) (some j)) = (some j) := if_neg (fun q => by first | exact absurd h19 (Int32.not_lt.mpr q.1) | exact absurd h39 (Int32.not_le.mpr q.2))
        rw [← e]; exact hend
      · refine gj_iload_n d_Ro_latest_22 rfl ?_
        refine gj_kc (v := (-1)) d_Ro_latest_23 (by decide) ?_
        refine gj_icmp_eq (tgt := 42) d_Ro_latest_24 (by decide) (fun h24 => absurd h24 (nI_m1 (by omega))) (fun h24 => ?_)
        refine gj_aload_n d_Ro_latest_27 rfl ?_
        refine gj_get d_Ro_latest_28 gf_Ro_21 hx rfl ?_
        refine gj_iload_n d_Ro_latest_31 rfl ?_
        refine gj_iald d_Ro_latest_32 hf rfl (vp_in_nI (by omega) (by omega)) ?_
        refine gj_top (y := fr (i)) (congrArg fr (nI_clamp (by omega))) ?_
        refine gj_aload_n d_Ro_latest_33 rfl ?_
        refine gj_get d_Ro_latest_34 gf_Ro_21 hx rfl ?_
        refine gj_iload_n d_Ro_latest_37 rfl ?_
        refine gj_iald d_Ro_latest_38 hf rfl (vp_in_nI (by omega) (by omega)) ?_
        refine gj_top (y := fr (j)) (congrArg fr (nI_clamp (by omega))) ?_
        refine gj_icmp_le (tgt := 44) d_Ro_latest_39 (by decide) (fun h39 => ?_) (fun h39 => ?_)
        · refine gj_iincN d_Ro_latest_44 rfl (by decide) ?_
          refine gj_goto (tgt := 4) d_Ro_latest_47 (by decide) ?_
          refine gj_less (lc' := [(0, .ref (x)), (1, .int (v)), (2, .int (nI j)), (3, .int (nI (i + 1)))]) ⟨rfl, rfl, rfl, rfl, trivial⟩ ?_
          refine ih (i + 1) (some j) (by omega) (fun k hk => by cases hk; omega) ?_
          have e : (@ite _ (fr i ≤ v ∧ pf_gt fr i (some j)) (Classical.propDecidable _) (some i) (some j)) = (some j) := if_neg (fun q => by first | exact absurd h19 (Int32.not_lt.mpr q.1) | exact absurd h39 (Int32.not_le.mpr q.2))
          rw [← e]; exact hend
        · refine gj_iload_n d_Ro_latest_42 rfl ?_
          refine gj_istore_n d_Ro_latest_43 (by decide) ?_
          refine gj_iincN d_Ro_latest_44 rfl (by decide) ?_
          refine gj_goto (tgt := 4) d_Ro_latest_47 (by decide) ?_
          refine gj_less (lc' := [(0, .ref (x)), (1, .int (v)), (2, .int (nI i)), (3, .int (nI (i + 1)))]) ⟨rfl, rfl, rfl, rfl, trivial⟩ ?_
          refine ih (i + 1) (some i) (by omega) (fun k hk => by cases hk; omega) ?_
          have e : (@ite _ (fr i ≤ v ∧ pf_gt fr i (some j)) (Classical.propDecidable _) (some i) (some j)) = (some i) := if_pos ⟨Int32.not_lt.mp h19, Int32.not_le.mp h39⟩
          rw [← e]; exact hend
set_option maxHeartbeats 2000000 in
theorem c_Ro_latest {d K N n x sz L : Nat} {C : Nat → va_E} {fr : Nat → Int32} (hx : C (x) = .inr (3, [.ref (x + 1), .ref (x + 2), .ref (x + 3), .int (nI sz)])) (hf : C (x + 1) = .inl (0, L, .inl fr)) (hs : sz ≤ L) (hL : L ≤ 8) {v : Int32} : gj_G md_Ro_latest (d) K N 0 0 0 [(0, .ref (x)), (1, .int (v))] [] n C (fun r => r = (gj_iv (pf_cd (pf_la fr v sz 0 none)), n, C)) := by
  refine gj_kc (v := (-1)) d_Ro_latest_0 (by decide) ?_
  refine gj_istore_n d_Ro_latest_1 (by decide) ?_
  refine gj_kc (v := 0) d_Ro_latest_2 (by decide) ?_
  refine gj_istore_n d_Ro_latest_3 (by decide) ?_
  refine gj_less (lc' := [(0, .ref (x)), (1, .int (v)), (2, .int (-1)), (3, .int (nI 0))]) ⟨rfl, rfl, rfl, rfl, trivial⟩ ?_
  exact c_Ro_latest_loop hx hf hs hL sz 0 none (by omega) (fun _ h => nomatch h) rfl
set_option maxHeartbeats 2000000 in
theorem c_RB_needRoom {d K N n x sz L : Nat} {C : Nat → va_E} {fr : Nat → Int32} (hx : C (x) = .inr (3, [.ref (x + 1), .ref (x + 2), .ref (x + 3), .int (nI sz)])) (hf : C (x + 1) = .inl (0, L, .inl fr)) (hs : sz ≤ L) (hL : L ≤ 8) {v : Int32} (hr : pf_pl fr v sz 0 < L) : gj_G md_RB_needRoom (d + 2) K N 0 0 0 [(0, .ref (x)), (1, .int (v))] [] n C (fun r => r = (.inl none, n, C)) := by
  refine gj_aload_n d_RB_needRoom_0 rfl ?_
  refine gj_iload_n d_RB_needRoom_1 rfl ?_
  refine gj_callV (as := [.int (v)]) (rest := []) (K1 := 0) (N1 := 0) d_RB_needRoom_2 mo_Ro_hasRoomFor gw_493 gw_494 gw_495 hx rfl pl_Ro_hasRoomFor (Nat.le_of_ble_eq_true rfl) (Nat.le_of_ble_eq_true rfl) (Nat.zero_le _) (Nat.zero_le _) (c_Ro_hasRoomFor hx hf hs hL) (fun E n' C' _ h => by cases h) (fun v n' C' _ h => ?_)
  cases h
  refine gj_if_ne (tgt := 18) d_RB_needRoom_5 (by decide) (fun h5 => ?_) (fun h5 => absurd h5 (by rw [if_pos hr]; decide))
  refine gj_vret rfl (Nat.zero_le _) (Nat.zero_le _) d_RB_needRoom_18 ?_
  exact rfl
set_option maxHeartbeats 2000000 in
theorem c_RB_needRoom_x {d K N n x sz L : Nat} {C : Nat → va_E} {fr : Nat → Int32} (hx : C (x) = .inr (3, [.ref (x + 1), .ref (x + 2), .ref (x + 3), .int (nI sz)])) (hf : C (x + 1) = .inl (0, L, .inl fr)) (hs : sz ≤ L) (hL : L ≤ 8) {v : Int32} (hK : 1 ≤ K) (hN : 6 ≤ N) (hr : ¬ pf_pl fr v sz 0 < L) : gj_G md_RB_needRoom (d + 2) K N 0 0 0 [(0, .ref (x)), (1, .int (v))] [] n C (fun r => r = (.inr "java/lang/UnsupportedOperationException", n, C)) := by
  refine gj_aload_n d_RB_needRoom_0 rfl ?_
  refine gj_iload_n d_RB_needRoom_1 rfl ?_
  refine gj_callV (as := [.int (v)]) (rest := []) (K1 := 0) (N1 := 0) d_RB_needRoom_2 mo_Ro_hasRoomFor gw_493 gw_494 gw_495 hx rfl pl_Ro_hasRoomFor (Nat.le_of_ble_eq_true rfl) (Nat.le_of_ble_eq_true rfl) (Nat.zero_le _) (Nat.zero_le _) (c_Ro_hasRoomFor hx hf hs hL) (fun E n' C' _ h => by cases h) (fun v n' C' _ h => ?_)
  cases h
  refine gj_if_ne (tgt := 18) d_RB_needRoom_5 (by decide) (fun h5 => absurd (if_neg hr) h5) (fun h5 => ?_)
  refine gj_throw2 tk_RB_needRoom_8 d_RB_needRoom_8 d_RB_needRoom_11 d_RB_needRoom_12 d_RB_needRoom_14 d_RB_needRoom_17 rfl (Nat.le_of_ble_eq_true rfl) (by omega) (by omega) ?_
  exact rfl
