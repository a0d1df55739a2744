/-! weightToPay, charged, leastCents, present, addend, priceNow -/
theorem l64_ne0 {a : Int32} (h : ¬ a = 0) : ¬ a.toInt64 = 0 := fun e => h (Int32.toInt_inj.mp (by
  have := congrArg Int64.toInt e
  rw [Int32.toInt_toInt64] at this
  rw [this]; decide))
theorem l64_0 {a : Int32} (h : a = 0) : a.toInt64 = 0 := by rw [h]; decide
def pr_up (a b : Int64) : Int64 := (a + b - 1) / b
def pr_w (dv g v : Int32) : Int32 := if dv = -1 then g else if g < (pr_up v.toInt64 dv.toInt64).toInt32 then (pr_up v.toInt64 dv.toInt64).toInt32 else g
def pr_am (ce fu fd : Int32) : Int64 := if fd = -1 then ce.toInt64 else ce.toInt64 + pr_up (ce.toInt64 * fu.toInt64) fd.toInt64
def pr_ch (ce fu fd mi : Int32) : Int64 := if mi.toInt64 < pr_am ce fu fd then pr_am ce fu fd else mi.toInt64
theorem pr_st_cases (la ut : Nat → Int32) (l w : Int32) : ∀ m i, pr_st la ut l w m i = -1 ∨ ∃ k, k < i + m ∧ pr_st la ut l w m i = nI k
  | 0, _ => Or.inl rfl
  | m + 1, i => by
    unfold pr_st
    split
    · exact Or.inr ⟨i, by omega, rfl⟩
    · rcases pr_st_cases la ut l w m (i + 1) with h | ⟨k, hk, h⟩
      · exact Or.inl h
      · exact Or.inr ⟨k, by omega, h⟩
def pr_ll (F : Nat → Int32 → Int32 → Int32) (la ab ut ce : Nat → Int32) (l lo hi : Int32) : Nat → Nat → Int32 → Int32
  | 0, _, b => b
  | m + 1, i, b => pr_ll F la ab ut ce l lo hi m (i + 1) (if la i = l ∧ ¬ F i (lo - ut i) (hi - ab i - 1) = -1 ∧ (b = -1 ∨ F i (lo - ut i) (hi - ab i - 1) + ce i < b) then F i (lo - ut i) (hi - ab i - 1) + ce i else b)
/-- the least cents of p parcels -/
def pr_lc (la ab ut ce : Nat → Int32) (sp : Nat) (l : Int32) : Nat → Nat → Int32 → Int32 → Int32
  | 0, _, lo, hi => if lo ≤ 0 ∧ 0 ≤ hi then 0 else -1
  | p + 1, i, lo, hi => if lo ≤ 0 ∧ 0 ≤ hi then 0 else if hi < 0 then -1 else pr_ll (pr_lc la ab ut ce sp l p) la ab ut ce l lo hi (sp - i) i (-1)
def pr_px (ch : Int64) (up dn : Nat → Int32) : Option Nat → Int32
  | none => ch.toInt32
  | some p => (pr_up (ch * (up p).toInt64) (dn p).toInt64).toInt32
/-- the shipment of a number -/
def pr_pn (sh : Nat → Option Nat) (s : Int32) : Option Nat := if 0 ≤ s ∧ s < 20 then sh s.toNatClampNeg else none
theorem pr_pn_some {sh : Nat → Option Nat} {s : Int32} {y : Nat} (h : pr_pn sh s = some y) : ∃ j, j < 20 ∧ s = nI j ∧ sh j = some y := by
  unfold pr_pn at h
  split at h
  · rename_i hs
    obtain ⟨j, hj, e⟩ := nI_of (Int32.not_lt.mpr hs.1)
    subst e
    rw [nI_clamp hj] at h
    exact ⟨j, (nI_ltI (b := 20) hj (by decide)).mp hs.2, rfl, h⟩
  · cases h
theorem pr_pn_of {sh : Nat → Option Nat} {j : Nat} (h : j < 20) : pr_pn sh (nI j) = sh j := by
  unfold pr_pn
  rw [if_pos ⟨nI_pos' (by omega), (nI_ltI (b := 20) (by omega) (by decide)).mpr h⟩, nI_clamp (by omega)]
set_option maxHeartbeats 2000000 in
theorem c_Ra_weightToPay {d K N n x y li sp a : Nat} {C : Nat → va_E} {dv : Nat → Int32} {z g v s c l : Int32} (hx : C (x) = .inr (2, [.ref (x + 1), .ref (x + 2), .ref (x + 3), .ref (x + 4), .ref (x + 5), .ref (x + 6), .ref (x + 7), .ref (x + 8), .int (nI li), .int (nI sp)])) (hdv : C (x + 5) = .inl (0, 10, .inl dv)) (hy : C (y) = .inr (4, [.int (z), .int (g), .int (v), .int (s), .int (c), .int (l)])) (ha : a < 10) (h0 : ¬ dv a = 0) : gj_G md_Ra_weightToPay (d + 2) K N 0 0 0 [(0, .ref (x)), (1, .ref (y)), (2, .int (nI a))] [] n C (fun r => r = (gj_iv (pr_w (dv a) g v), n, C)) := by
  refine gj_aload_n d_Ra_weightToPay_0 rfl ?_
  refine gj_get d_Ra_weightToPay_1 gf_Ra_24 hx rfl ?_
  refine gj_iload_n d_Ra_weightToPay_4 rfl ?_
  refine gj_iald d_Ra_weightToPay_5 hdv rfl (vp_in_nI (by omega) (by decide)) ?_
  refine gj_top (y := dv (a)) (congrArg dv (nI_clamp (by omega))) ?_
  refine gj_istore_n d_Ra_weightToPay_6 (by decide) ?_
  refine gj_iload_n d_Ra_weightToPay_7 rfl ?_
  refine gj_kc (v := (-1)) d_Ra_weightToPay_8 (by decide) ?_
  refine gj_icmp_ne (tgt := 17) d_Ra_weightToPay_9 (by decide) (fun h9 => ?_) (fun h9 => ?_)
  · refine gj_aload_n d_Ra_weightToPay_17 rfl ?_
    refine gj_get d_Ra_weightToPay_18 gf_Ra_73 hy rfl ?_
    refine gj_i2l d_Ra_weightToPay_21 ?_
    refine gj_iload_n d_Ra_weightToPay_22 rfl ?_
    refine gj_i2l d_Ra_weightToPay_23 ?_
    refine gj_callSN (as := [.long ((v : Int32).toInt64), .long ((dv (a) : Int32).toInt64)]) (rest := []) (K1 := 0) (N1 := 0) d_Ra_weightToPay_24 mo_RB_dividedUp gw_413 gw_414 gw_20 pl_RB_dividedUp (Nat.le_of_ble_eq_true rfl) (Nat.le_of_ble_eq_true rfl) (Nat.zero_le _) (Nat.zero_le _) (c_RB_dividedUp (l64_ne0 h0)) (fun E n' C' _ h => by cases h) (fun v n' C' _ h => ?_)
    cases h
    refine gj_l2i d_Ra_weightToPay_27 ?_
    refine gj_istore d_Ra_weightToPay_28 (by decide) ?_
    refine gj_aload_n d_Ra_weightToPay_30 rfl ?_
    refine gj_get d_Ra_weightToPay_31 gf_Ra_68 hy rfl ?_
    refine gj_iload d_Ra_weightToPay_34 rfl ?_
    refine gj_max d_Ra_weightToPay_36 gw_435 gw_118 gw_24 gw_119 (Nat.le_of_ble_eq_true rfl) (Nat.zero_le _) (Nat.zero_le _) ?_
    refine gj_iret rfl (Nat.zero_le _) (Nat.zero_le _) d_Ra_weightToPay_39 ?_
    exact gj_ei (if_neg h9).symm
  · refine gj_aload_n d_Ra_weightToPay_12 rfl ?_
    refine gj_get d_Ra_weightToPay_13 gf_Ra_68 hy rfl ?_
    refine gj_iret rfl (Nat.zero_le _) (Nat.zero_le _) d_Ra_weightToPay_16 ?_
    exact gj_ei (if_pos h9).symm
set_option maxHeartbeats 2000000 in
theorem c_Ra_weightToPay_x {d K N n x y li sp a : Nat} {C : Nat → va_E} {dv : Nat → Int32} {z g v s c l : Int32} (hx : C (x) = .inr (2, [.ref (x + 1), .ref (x + 2), .ref (x + 3), .ref (x + 4), .ref (x + 5), .ref (x + 6), .ref (x + 7), .ref (x + 8), .int (nI li), .int (nI sp)])) (hdv : C (x + 5) = .inl (0, 10, .inl dv)) (hy : C (y) = .inr (4, [.int (z), .int (g), .int (v), .int (s), .int (c), .int (l)])) (ha : a < 10) (hK : 1 ≤ K) (hN : 6 ≤ N) (h0 : dv a = 0) : gj_G md_Ra_weightToPay (d + 2) K N 0 0 0 [(0, .ref (x)), (1, .ref (y)), (2, .int (nI a))] [] n C (fun r => r = (.inr "java/lang/ArithmeticException", n, C)) := by
  refine gj_aload_n d_Ra_weightToPay_0 rfl ?_
  refine gj_get d_Ra_weightToPay_1 gf_Ra_24 hx rfl ?_
  refine gj_iload_n d_Ra_weightToPay_4 rfl ?_
  refine gj_iald d_Ra_weightToPay_5 hdv rfl (vp_in_nI (by omega) (by decide)) ?_
  refine gj_top (y := dv (a)) (congrArg dv (nI_clamp (by omega))) ?_
  refine gj_istore_n d_Ra_weightToPay_6 (by decide) ?_
  refine gj_iload_n d_Ra_weightToPay_7 rfl ?_
  refine gj_kc (v := (-1)) d_Ra_weightToPay_8 (by decide) ?_
  refine gj_icmp_ne (tgt := 17) d_Ra_weightToPay_9 (by decide) (fun h9 => ?_) (fun h9 => absurd h9 (by rw [h0]; decide))
  refine gj_aload_n d_Ra_weightToPay_17 rfl ?_
  refine gj_get d_Ra_weightToPay_18 gf_Ra_73 hy rfl ?_
  refine gj_i2l d_Ra_weightToPay_21 ?_
  refine gj_iload_n d_Ra_weightToPay_22 rfl ?_
  refine gj_i2l d_Ra_weightToPay_23 ?_
  refine gj_callSN (as := [.long ((v : Int32).toInt64), .long ((dv (a) : Int32).toInt64)]) (rest := []) (K1 := 1) (N1 := 6) d_Ra_weightToPay_24 mo_RB_dividedUp gw_413 gw_414 gw_20 pl_RB_dividedUp (Nat.le_of_ble_eq_true rfl) (Nat.le_of_ble_eq_true rfl) (by omega) (by omega) (c_RB_dividedUp_x (Nat.le_refl 1) (Nat.le_refl 6) (l64_0 h0)) (fun E n24 C24 g24 q24 => ?_) (fun v n' C' _ h => by cases h)
  cases q24
  exact gj_xout rfl (by omega) (by omega) rfl
set_option maxHeartbeats 2000000 in
theorem c_Ra_charged {d K N n x li sp a i : Nat} {C : Nat → va_E} {ce mi fu fd : Nat → Int32} (hx : C (x) = .inr (2, [.ref (x + 1), .ref (x + 2), .ref (x + 3), .ref (x + 4), .ref (x + 5), .ref (x + 6), .ref (x + 7), .ref (x + 8), .int (nI li), .int (nI sp)])) (hce : C (x + 4) = .inl (0, 60, .inl ce)) (hmi : C (x + 6) = .inl (0, 10, .inl mi)) (hfu : C (x + 7) = .inl (0, 10, .inl fu)) (hfd : C (x + 8) = .inl (0, 10, .inl fd)) (ha : a < 10) (hi : i < 60) (h0 : ¬ fd a = 0) : gj_G md_Ra_charged (d + 2) K N 0 0 0 [(0, .ref (x)), (1, .int (nI i)), (2, .int (nI a))] [] n C (fun r => r = (gj_lv2 (pr_ch (ce i) (fu a) (fd a) (mi a)), n, C)) := by
  refine gj_aload_n d_Ra_charged_0 rfl ?_
  refine gj_get d_Ra_charged_1 gf_Ra_21 hx rfl ?_
  refine gj_iload_n d_Ra_charged_4 rfl ?_
  refine gj_iald d_Ra_charged_5 hce rfl (vp_in_nI (by omega) (by decide)) ?_
  refine gj_top (y := ce (i)) (congrArg ce (nI_clamp (by omega))) ?_
  refine gj_i2l d_Ra_charged_6 ?_
  refine gj_lstore_n d_Ra_charged_7 (by decide) ?_
  refine gj_aload_n d_Ra_charged_8 rfl ?_
  refine gj_get d_Ra_charged_9 gf_Ra_33 hx rfl ?_
  refine gj_iload_n d_Ra_charged_12 rfl ?_
  refine gj_iald d_Ra_charged_13 hfd rfl (vp_in_nI (by omega) (by decide)) ?_
  refine gj_top (y := fd (a)) (congrArg fd (nI_clamp (by omega))) ?_
  refine gj_kc (v := (-1)) d_Ra_charged_14 (by decide) ?_
  refine gj_icmp_eq (tgt := 40) d_Ra_charged_15 (by decide) (fun h15 => ?_) (fun h15 => ?_)
  · refine gj_lload_n d_Ra_charged_40 rfl ?_
    refine gj_aload_n d_Ra_charged_41 rfl ?_
    refine gj_get d_Ra_charged_42 gf_Ra_27 hx rfl ?_
    refine gj_iload_n d_Ra_charged_45 rfl ?_
    refine gj_iald d_Ra_charged_46 hmi rfl (vp_in_nI (by omega) (by decide)) ?_
    refine gj_top (y := mi (a)) (congrArg mi (nI_clamp (by omega))) ?_
    refine gj_i2l d_Ra_charged_47 ?_
    refine gj_maxL d_Ra_charged_48 gw_456 gw_457 gw_24 gw_458 (Nat.le_of_ble_eq_true rfl) (Nat.zero_le _) (Nat.zero_le _) ?_
    refine gj_lret rfl (Nat.zero_le _) (Nat.zero_le _) d_Ra_charged_51 ?_
    have e : pr_am (ce i) (fu a) (fd a) = _ := if_pos h15
    exact gj_el (by unfold pr_ch; rw [e]; try rfl)
  · refine gj_lload_n d_Ra_charged_18 rfl ?_
    refine gj_lload_n d_Ra_charged_19 rfl ?_
    refine gj_aload_n d_Ra_charged_20 rfl ?_
    refine gj_get d_Ra_charged_21 gf_Ra_30 hx rfl ?_
    refine gj_iload_n d_Ra_charged_24 rfl ?_
    refine gj_iald d_Ra_charged_25 hfu rfl (vp_in_nI (by omega) (by decide)) ?_
    refine gj_top (y := fu (a)) (congrArg fu (nI_clamp (by omega))) ?_
    refine gj_i2l d_Ra_charged_26 ?_
    refine gj_lmul d_Ra_charged_27 ?_
    refine gj_aload_n d_Ra_charged_28 rfl ?_
    refine gj_get d_Ra_charged_29 gf_Ra_33 hx rfl ?_
    refine gj_iload_n d_Ra_charged_32 rfl ?_
    refine gj_iald d_Ra_charged_33 hfd rfl (vp_in_nI (by omega) (by decide)) ?_
    refine gj_top (y := fd (a)) (congrArg fd (nI_clamp (by omega))) ?_
    refine gj_i2l d_Ra_charged_34 ?_
    refine gj_callSN (as := [.long (((ce (i) : Int32).toInt64) * ((fu (a) : Int32).toInt64)), .long ((fd (a) : Int32).toInt64)]) (rest := [.long ((ce (i) : Int32).toInt64)]) (K1 := 0) (N1 := 0) d_Ra_charged_35 mo_RB_dividedUp gw_413 gw_414 gw_20 pl_RB_dividedUp (Nat.le_of_ble_eq_true rfl) (Nat.le_of_ble_eq_true rfl) (Nat.zero_le _) (Nat.zero_le _) (c_RB_dividedUp (l64_ne0 h0)) (fun E n' C' _ h => by cases h) (fun v n' C' _ h => ?_)
    cases h
    refine gj_ladd d_Ra_charged_38 ?_
    refine gj_lstore_n d_Ra_charged_39 (by decide) ?_
    refine gj_lload_n d_Ra_charged_40 rfl ?_
    refine gj_aload_n d_Ra_charged_41 rfl ?_
    refine gj_get d_Ra_charged_42 gf_Ra_27 hx rfl ?_
    refine gj_iload_n d_Ra_charged_45 rfl ?_
    refine gj_iald d_Ra_charged_46 hmi rfl (vp_in_nI (by omega) (by decide)) ?_
    refine gj_top (y := mi (a)) (congrArg mi (nI_clamp (by omega))) ?_
    refine gj_i2l d_Ra_charged_47 ?_
    refine gj_maxL d_Ra_charged_48 gw_456 gw_457 gw_24 gw_458 (Nat.le_of_ble_eq_true rfl) (Nat.zero_le _) (Nat.zero_le _) ?_
    refine gj_lret rfl (Nat.zero_le _) (Nat.zero_le _) d_Ra_charged_51 ?_
    have e : pr_am (ce i) (fu a) (fd a) = _ := if_neg h15
    exact gj_el (by unfold pr_ch; rw [e]; try rfl)
set_option maxHeartbeats 2000000 in
theorem c_Ra_leastCents_loop {d K N n x li sp i0 p : Nat} {C : Nat → va_E} {la ab ut ce : Nat → Int32} (hx : C (x) = .inr (2, [.ref (x + 1), .ref (x + 2), .ref (x + 3), .ref (x + 4), .ref (x + 5), .ref (x + 6), .ref (x + 7), .ref (x + 8), .int (nI li), .int (nI sp)])) (hla : C (x + 1) = .inl (0, 60, .inl la)) (hab : C (x + 2) = .inl (0, 60, .inl ab)) (hut : C (x + 3) = .inl (0, 60, .inl ut)) (hce : C (x + 4) = .inl (0, 60, .inl ce)) (h60 : sp ≤ 60) {l lo hi : Int32} {F : Nat → Int32 → Int32 → Int32} (hF : ∀ (i : Nat) (lo hi : Int32), i ≤ sp → gj_G md_Ra_leastCents d 0 0 0 0 0 [(0, .ref x), (1, .int l), (2, .int (nI p)), (3, .int (nI i)), (4, .int lo), (5, .int hi)] [] n C (fun r => r = (gj_iv (F i lo hi), n, C))) {Q : gj_R → Prop} : ∀ (m : Nat) (i : Nat) (b : Int32), i + m = sp → Q (gj_iv (pr_ll F la ab ut ce l lo hi m i b), n, C) → gj_G md_Ra_leastCents (d + 1) K N 0 0 29 [(0, .ref (x)), (1, .int (l)), (2, .int (nI (p + 1))), (3, .int (nI i0)), (4, .int (lo)), (5, .int (hi)), (6, .int (b)), (7, .int (nI i))] [] n C Q := by
  intro m
  induction m with
  | zero =>
    intro i b hm hend
    refine gj_iload d_Ra_leastCents_29 rfl ?_
    refine gj_aload_n d_Ra_leastCents_31 rfl ?_
    refine gj_get d_Ra_leastCents_32 gf_Ra_43 hx rfl ?_
    refine gj_icmp_ge (tgt := 128) d_Ra_leastCents_35 (by decide) (fun h35 => ?_) (fun h35 => by have m35 : ¬ (sp ≤ i) := fun q => h35 ((nI_leI (a := sp) (b := i) (by omega) (by omega)).mpr q); exact absurd (show sp ≤ i from by omega) m35)
    have m35 : sp ≤ i := (nI_leI (a := sp) (b := i) (by omega) (by omega)).mp h35
    refine gj_iload d_Ra_leastCents_128 rfl ?_
    refine gj_iret rfl (Nat.zero_le _) (Nat.zero_le _) d_Ra_leastCents_130 ?_
    exact hend
  | succ m ih =>
    intro i b hm hend
    refine gj_iload d_Ra_leastCents_29 rfl ?_
    refine gj_aload_n d_Ra_leastCents_31 rfl ?_
    refine gj_get d_Ra_leastCents_32 gf_Ra_43 hx rfl ?_
    refine gj_icmp_ge (tgt := 128) d_Ra_leastCents_35 (by decide) (fun h35 => by have m35 : sp ≤ i := (nI_leI (a := sp) (b := i) (by omega) (by omega)).mp h35; exact absurd m35 (show ¬ (sp ≤ i) from by omega)) (fun h35 => ?_)
    have m35 : ¬ (sp ≤ i) := fun q => h35 ((nI_leI (a := sp) (b := i) (by omega) (by omega)).mpr q)
    refine gj_aload_n d_Ra_leastCents_38 rfl ?_
    refine gj_get d_Ra_leastCents_39 gf_Ra_9 hx rfl ?_
    refine gj_iload d_Ra_leastCents_42 rfl ?_
    refine gj_iald d_Ra_leastCents_44 hla rfl (vp_in_nI (by omega) (by decide)) ?_
    refine gj_top (y := la (i)) (congrArg la (nI_clamp (by omega))) ?_
    refine gj_iload_n d_Ra_leastCents_45 rfl ?_
    refine gj_icmp_ne (tgt := 122) d_Ra_leastCents_46 (by decide) (fun h46 => ?_) (fun h46 => ?_)
    · refine gj_iincN d_Ra_leastCents_122 rfl (by decide) ?_
      refine gj_goto (tgt := 29) d_Ra_leastCents_125 (by decide) ?_
      refine gj_less (lc' := [(0, .ref (x)), (1, .int (l)), (2, .int (nI (p + 1))), (3, .int (nI i0)), (4, .int (lo)), (5, .int (hi)), (6, .int (b)), (7, .int (nI (i + 1)))]) ⟨rfl, rfl, rfl, rfl, rfl, rfl, rfl, rfl, trivial⟩ ?_
      refine ih (i + 1) (b) (by omega) ?_
      have e : (if la i = l ∧ ¬ F i (lo - ut i) (hi - ab i - 1) = -1 ∧ (b = -1 ∨ F i (lo - ut i) (hi - ab i - 1) + ce i < b) then F i (lo - ut i) (hi - ab i - 1) + ce i else b) = b := if_neg (fun q => by first | exact h46 q.1 | exact q.2.1 h86 | exact q.2.2.elim h92 (fun z => absurd h107 (Int32.not_le.mpr z)))
      rw [← e]; exact hend
    · refine gj_aload_n d_Ra_leastCents_49 rfl ?_
      refine gj_iload_n d_Ra_leastCents_50 rfl ?_
      refine gj_iload_n d_Ra_leastCents_51 rfl ?_
      refine gj_kc (v := 1) d_Ra_leastCents_52 (by decide) ?_
      refine gj_isub d_Ra_leastCents_53 ?_
      refine gj_top (y := nI p) (nI_pred p) ?_
      refine gj_iload d_Ra_leastCents_54 rfl ?_
      refine gj_iload d_Ra_leastCents_56 rfl ?_
      refine gj_aload_n d_Ra_leastCents_58 rfl ?_
      refine gj_get d_Ra_leastCents_59 gf_Ra_18 hx rfl ?_
      refine gj_iload d_Ra_leastCents_62 rfl ?_
      refine gj_iald d_Ra_leastCents_64 hut rfl (vp_in_nI (by omega) (by decide)) ?_
      refine gj_top (y := ut (i)) (congrArg ut (nI_clamp (by omega))) ?_
      refine gj_isub d_Ra_leastCents_65 ?_
      refine gj_iload d_Ra_leastCents_66 rfl ?_
      refine gj_aload_n d_Ra_leastCents_68 rfl ?_
      refine gj_get d_Ra_leastCents_69 gf_Ra_15 hx rfl ?_
      refine gj_iload d_Ra_leastCents_72 rfl ?_
      refine gj_iald d_Ra_leastCents_74 hab rfl (vp_in_nI (by omega) (by decide)) ?_
      refine gj_top (y := ab (i)) (congrArg ab (nI_clamp (by omega))) ?_
      refine gj_isub d_Ra_leastCents_75 ?_
      refine gj_kc (v := 1) d_Ra_leastCents_76 (by decide) ?_
      refine gj_isub d_Ra_leastCents_77 ?_
      refine gj_callV (as := [.int (l), .int (nI p), .int (nI i), .int ((lo) - (ut (i))), .int (((hi) - (ab (i))) - (1))]) (rest := []) (K1 := 0) (N1 := 0) d_Ra_leastCents_78 mo_Ra_leastCents gw_482 gw_479 gw_480 hx rfl pl_Ra_leastCents (Nat.le_of_ble_eq_true rfl) (Nat.le_of_ble_eq_true rfl) (Nat.zero_le _) (Nat.zero_le _) (hF i (lo - ut i) (hi - ab i - 1) (by omega)) (fun E n' C' _ h => by cases h) (fun v n' C' _ h => ?_)
      cases h
      refine gj_istore d_Ra_leastCents_81 (by decide) ?_
      refine gj_iload d_Ra_leastCents_83 rfl ?_
      refine gj_kc (v := (-1)) d_Ra_leastCents_85 (by decide) ?_
      refine gj_icmp_eq (tgt := 122) d_Ra_leastCents_86 (by decide) (fun h86 => ?_) (fun h86 => ?_)
      · refine gj_iincN d_Ra_leastCents_122 rfl (by decide) ?_
        refine gj_goto (tgt := 29) d_Ra_leastCents_125 (by decide) ?_
        refine gj_less (lc' := [(0, .ref (x)), (1, .int (l)), (2, .int (nI (p + 1))), (3, .int (nI i0)), (4, .int (lo)), (5, .int (hi)), (6, .int (b)), (7, .int (nI (i + 1)))]) ⟨rfl, rfl, rfl, rfl, rfl, rfl, rfl, rfl, trivial⟩ ?_
        refine ih (i + 1) (b) (by omega) ?_
        have e : (if la i = l ∧ ¬ F i (lo - ut i) (hi - ab i - 1) = -1 ∧ (b = -1 ∨ F i (lo - ut i) (hi - ab i - 1) + ce i < b) then F i (lo - ut i) (hi - ab i - 1) + ce i else b) = b := if_neg (fun q => by first | exact h46 q.1 | exact q.2.1 h86 | exact q.2.2.elim h92 (fun z => absurd h107 (Int32.not_le.mpr z)))
        rw [← e]; exact hend
      · refine gj_iload d_Ra_leastCents_89 rfl ?_
        refine gj_kc (v := (-1)) d_Ra_leastCents_91 (by decide) ?_
        refine gj_icmp_eq (tgt := 110) d_Ra_leastCents_92 (by decide) (fun h92 => ?_) (fun h92 => ?_)
        · refine gj_iload d_Ra_leastCents_110 rfl ?_
          refine gj_aload_n d_Ra_leastCents_112 rfl ?_
          refine gj_get d_Ra_leastCents_113 gf_Ra_21 hx rfl ?_
          refine gj_iload d_Ra_leastCents_116 rfl ?_
          refine gj_iald d_Ra_leastCents_118 hce rfl (vp_in_nI (by omega) (by decide)) ?_
          refine gj_top (y := ce (i)) (congrArg ce (nI_clamp (by omega))) ?_
          refine gj_iadd d_Ra_leastCents_119 ?_
          refine gj_istore d_Ra_leastCents_120 (by decide) ?_
          refine gj_iincN d_Ra_leastCents_122 rfl (by decide) ?_
          refine gj_goto (tgt := 29) d_Ra_leastCents_125 (by decide) ?_
          refine gj_less (lc' := [(0, .ref (x)), (1, .int (l)), (2, .int (nI (p + 1))), (3, .int (nI i0)), (4, .int (lo)), (5, .int (hi)), (6, .int ((F i (lo - ut i) (hi - ab i - 1)) + (ce (i)))), (7, .int (nI (i + 1)))]) ⟨rfl, rfl, rfl, rfl, rfl, rfl, rfl, rfl, trivial⟩ ?_
          refine ih (i + 1) ((F i (lo - ut i) (hi - ab i - 1)) + (ce (i))) (by omega) ?_
          have e : (if la i = l ∧ ¬ F i (lo - ut i) (hi - ab i - 1) = -1 ∧ (b = -1 ∨ F i (lo - ut i) (hi - ab i - 1) + ce i < b) then F i (lo - ut i) (hi - ab i - 1) + ce i else b) = (F i (lo - ut i) (hi - ab i - 1)) + (ce (i)) := if_pos ⟨h46, h86, by first | exact Or.inl h92 | exact Or.inr (Int32.not_le.mp h107)⟩
          rw [← e]; exact hend
        · refine gj_iload d_Ra_leastCents_95 rfl ?_
          refine gj_aload_n d_Ra_leastCents_97 rfl ?_
          refine gj_get d_Ra_leastCents_98 gf_Ra_21 hx rfl ?_
          refine gj_iload d_Ra_leastCents_101 rfl ?_
          refine gj_iald d_Ra_leastCents_103 hce rfl (vp_in_nI (by omega) (by decide)) ?_
          refine gj_top (y := ce (i)) (congrArg ce (nI_clamp (by omega))) ?_
          refine gj_iadd d_Ra_leastCents_104 ?_
          refine gj_iload d_Ra_leastCents_105 rfl ?_
          refine gj_icmp_ge (tgt := 122) d_Ra_leastCents_107 (by decide) (fun h107 => ?_) (fun h107 => ?_)
          · refine gj_iincN d_Ra_leastCents_122 rfl (by decide) ?_
            refine gj_goto (tgt := 29) d_Ra_leastCents_125 (by decide) ?_
            refine gj_less (lc' := [(0, .ref (x)), (1, .int (l)), (2, .int (nI (p + 1))), (3, .int (nI i0)), (4, .int (lo)), (5, .int (hi)), (6, .int (b)), (7, .int (nI (i + 1)))]) ⟨rfl, rfl, rfl, rfl, rfl, rfl, rfl, rfl, trivial⟩ ?_
            refine ih (i + 1) (b) (by omega) ?_
            have e : (if la i = l ∧ ¬ F i (lo - ut i) (hi - ab i - 1) = -1 ∧ (b = -1 ∨ F i (lo - ut i) (hi - ab i - 1) + ce i < b) then F i (lo - ut i) (hi - ab i - 1) + ce i else b) = b := if_neg (fun q => by first | exact h46 q.1 | exact q.2.1 h86 | exact q.2.2.elim h92 (fun z => absurd h107 (Int32.not_le.mpr z)))
            rw [← e]; exact hend
          · refine gj_iload d_Ra_leastCents_110 rfl ?_
            refine gj_aload_n d_Ra_leastCents_112 rfl ?_
            refine gj_get d_Ra_leastCents_113 gf_Ra_21 hx rfl ?_
            refine gj_iload d_Ra_leastCents_116 rfl ?_
            refine gj_iald d_Ra_leastCents_118 hce rfl (vp_in_nI (by omega) (by decide)) ?_
            refine gj_top (y := ce (i)) (congrArg ce (nI_clamp (by omega))) ?_
            refine gj_iadd d_Ra_leastCents_119 ?_
            refine gj_istore d_Ra_leastCents_120 (by decide) ?_
            refine gj_iincN d_Ra_leastCents_122 rfl (by decide) ?_
            refine gj_goto (tgt := 29) d_Ra_leastCents_125 (by decide) ?_
            refine gj_less (lc' := [(0, .ref (x)), (1, .int (l)), (2, .int (nI (p + 1))), (3, .int (nI i0)), (4, .int (lo)), (5, .int (hi)), (6, .int ((F i (lo - ut i) (hi - ab i - 1)) + (ce (i)))), (7, .int (nI (i + 1)))]) ⟨rfl, rfl, rfl, rfl, rfl, rfl, rfl, rfl, trivial⟩ ?_
            refine ih (i + 1) ((F i (lo - ut i) (hi - ab i - 1)) + (ce (i))) (by omega) ?_
            have e : (if la i = l ∧ ¬ F i (lo - ut i) (hi - ab i - 1) = -1 ∧ (b = -1 ∨ F i (lo - ut i) (hi - ab i - 1) + ce i < b) then F i (lo - ut i) (hi - ab i - 1) + ce i else b) = (F i (lo - ut i) (hi - ab i - 1)) + (ce (i)) := if_pos ⟨h46, h86, by first | exact Or.inl h92 | exact Or.inr (Int32.not_le.mp h107)⟩
            rw [← e]; exact hend
set_option maxHeartbeats 2000000 in
theorem c_Ra_leastCents {d n x li sp : Nat} {C : Nat → va_E} {la ab ut ce : Nat → Int32} (hx : C (x) = .inr (2, [.ref (x + 1), .ref (x + 2), .ref (x + 3), .ref (x + 4), .ref (x + 5), .ref (x + 6), .ref (x + 7), .ref (x + 8), .int (nI li), .int (nI sp)])) (hla : C (x + 1) = .inl (0, 60, .inl la)) (hab : C (x + 2) = .inl (0, 60, .inl ab)) (hut : C (x + 3) = .inl (0, 60, .inl ut)) (hce : C (x + 4) = .inl (0, 60, .inl ce)) (h60 : sp ≤ 60) {l : Int32} : ∀ (p : Nat), p ≤ 60 → ∀ (i : Nat) (lo hi : Int32) {K N : Nat}, i ≤ sp → gj_G md_Ra_leastCents (d + p) K N 0 0 0 [(0, .ref (x)), (1, .int (l)), (2, .int (nI p)), (3, .int (nI i)), (4, .int (lo)), (5, .int (hi))] [] n C (fun r => r = (gj_iv (pr_lc la ab ut ce sp l p i lo hi), n, C)) := by
  intro p
  induction p with
  | zero =>
    intro hp i lo hi K N hm
    have hm := hm
    refine gj_iload d_Ra_leastCents_0 rfl ?_
    refine gj_if_gt (tgt := 12) d_Ra_leastCents_2 (by decide) (fun h2 => ?_) (fun h2 => ?_)
    · refine gj_iload_n d_Ra_leastCents_12 rfl ?_
      refine gj_if_le (tgt := 21) d_Ra_leastCents_13 (by decide) (fun h13 => ?_) (fun h13 => by have m13 : ¬ (0 ≤ 0) := fun q => h13 ((nI_leI (a := 0) (b := 0) (by omega) (by omega)).mpr q); exact absurd (show 0 ≤ 0 from by omega) m13)
      have m13 : 0 ≤ 0 := (nI_leI (a := 0) (b := 0) (by omega) (by omega)).mp h13
      refine gj_kc (v := (-1)) d_Ra_leastCents_21 (by decide) ?_
      refine gj_iret rfl (Nat.zero_le _) (Nat.zero_le _) d_Ra_leastCents_22 ?_
      exact gj_ei (if_neg (by first | exact fun q => absurd q.1 (Int32.not_le.mpr h2) | exact fun q => absurd q.2 (Int32.not_le.mpr h7))).symm
    · refine gj_iload d_Ra_leastCents_5 rfl ?_
      refine gj_if_lt (tgt := 12) d_Ra_leastCents_7 (by decide) (fun h7 => ?_) (fun h7 => ?_)
      · refine gj_iload_n d_Ra_leastCents_12 rfl ?_
        refine gj_if_le (tgt := 21) d_Ra_leastCents_13 (by decide) (fun h13 => ?_) (fun h13 => by have m13 : ¬ (0 ≤ 0) := fun q => h13 ((nI_leI (a := 0) (b := 0) (by omega) (by omega)).mpr q); exact absurd (show 0 ≤ 0 from by omega) m13)
        have m13 : 0 ≤ 0 := (nI_leI (a := 0) (b := 0) (by omega) (by omega)).mp h13
        refine gj_kc (v := (-1)) d_Ra_leastCents_21 (by decide) ?_
        refine gj_iret rfl (Nat.zero_le _) (Nat.zero_le _) d_Ra_leastCents_22 ?_
        exact gj_ei (if_neg (by first | exact fun q => absurd q.1 (Int32.not_le.mpr h2) | exact fun q => absurd q.2 (Int32.not_le.mpr h7))).symm
      · refine gj_kc (v := 0) d_Ra_leastCents_10 (by decide) ?_
        refine gj_iret rfl (Nat.zero_le _) (Nat.zero_le _) d_Ra_leastCents_11 ?_
        exact gj_ei (if_pos ⟨Int32.not_lt.mp h2, Int32.not_lt.mp h7⟩).symm
  | succ p ihp =>
    intro hp i lo hi K N hm
    have ih := fun (i : Nat) (lo hi : Int32) (h : i ≤ sp) => ihp (by omega) i lo hi (K := 0) (N := 0) h
    refine gj_iload d_Ra_leastCents_0 rfl ?_
    refine gj_if_gt (tgt := 12) d_Ra_leastCents_2 (by decide) (fun h2 => ?_) (fun h2 => ?_)
    · refine gj_iload_n d_Ra_leastCents_12 rfl ?_
      refine gj_if_le (tgt := 21) d_Ra_leastCents_13 (by decide) (fun h13 => by have m13 : p + 1 ≤ 0 := (nI_leI (a := p + 1) (b := 0) (by omega) (by omega)).mp h13; exact absurd m13 (show ¬ (p + 1 ≤ 0) from by omega)) (fun h13 => ?_)
      have m13 : ¬ (p + 1 ≤ 0) := fun q => h13 ((nI_leI (a := p + 1) (b := 0) (by omega) (by omega)).mpr q)
      refine gj_iload d_Ra_leastCents_16 rfl ?_
      refine gj_if_ge (tgt := 23) d_Ra_leastCents_18 (by decide) (fun h18 => ?_) (fun h18 => ?_)
      · refine gj_kc (v := (-1)) d_Ra_leastCents_23 (by decide) ?_
        refine gj_istore d_Ra_leastCents_24 (by decide) ?_
        refine gj_iload_n d_Ra_leastCents_26 rfl ?_
        refine gj_istore d_Ra_leastCents_27 (by decide) ?_
        refine gj_less (lc' := [(0, .ref (x)), (1, .int (l)), (2, .int (nI (p + 1))), (3, .int (nI i)), (4, .int (lo)), (5, .int (hi)), (6, .int (-1)), (7, .int (nI i))]) ⟨rfl, rfl, rfl, rfl, rfl, rfl, rfl, rfl, trivial⟩ ?_
        refine c_Ra_leastCents_loop hx hla hab hut hce h60 (fun i lo hi h => ih i lo hi h) (sp - i) i (-1) (by omega) ?_
        have e : pr_lc la ab ut ce sp l (p + 1) i lo hi = pr_ll (pr_lc la ab ut ce sp l p) la ab ut ce l lo hi (sp - i) i (-1) := (if_neg (by first | exact fun q => absurd q.1 (Int32.not_le.mpr h2) | exact fun q => absurd q.2 (Int32.not_le.mpr h7))).trans (if_neg (Int32.not_lt.mpr h18))
        rw [e]
      · refine gj_kc (v := (-1)) d_Ra_leastCents_21 (by decide) ?_
        refine gj_iret rfl (Nat.zero_le _) (Nat.zero_le _) d_Ra_leastCents_22 ?_
        exact gj_ei ((if_neg (by first | exact fun q => absurd q.1 (Int32.not_le.mpr h2) | exact fun q => absurd q.2 (Int32.not_le.mpr h7))).trans (if_pos (Int32.not_le.mp h18))).symm
    · refine gj_iload d_Ra_leastCents_5 rfl ?_
      refine gj_if_lt (tgt := 12) d_Ra_leastCents_7 (by decide) (fun h7 => ?_) (fun h7 => ?_)
      · refine gj_iload_n d_Ra_leastCents_12 rfl ?_
        refine gj_if_le (tgt := 21) d_Ra_leastCents_13 (by decide) (fun h13 => by have m13 : p + 1 ≤ 0 := (nI_leI (a := p + 1) (b := 0) (by omega) (by omega)).mp h13; exact absurd m13 (show ¬ (p + 1 ≤ 0) from by omega)) (fun h13 => ?_)
        have m13 : ¬ (p + 1 ≤ 0) := fun q => h13 ((nI_leI (a := p + 1) (b := 0) (by omega) (by omega)).mpr q)
        refine gj_iload d_Ra_leastCents_16 rfl ?_
        refine gj_if_ge (tgt := 23) d_Ra_leastCents_18 (by decide) (fun h18 => ?_) (fun h18 => ?_)
        · refine gj_kc (v := (-1)) d_Ra_leastCents_23 (by decide) ?_
          refine gj_istore d_Ra_leastCents_24 (by decide) ?_
          refine gj_iload_n d_Ra_leastCents_26 rfl ?_
          refine gj_istore d_Ra_leastCents_27 (by decide) ?_
          refine gj_less (lc' := [(0, .ref (x)), (1, .int (l)), (2, .int (nI (p + 1))), (3, .int (nI i)), (4, .int (lo)), (5, .int (hi)), (6, .int (-1)), (7, .int (nI i))]) ⟨rfl, rfl, rfl, rfl, rfl, rfl, rfl, rfl, trivial⟩ ?_
          refine c_Ra_leastCents_loop hx hla hab hut hce h60 (fun i lo hi h => ih i lo hi h) (sp - i) i (-1) (by omega) ?_
          have e : pr_lc la ab ut ce sp l (p + 1) i lo hi = pr_ll (pr_lc la ab ut ce sp l p) la ab ut ce l lo hi (sp - i) i (-1) := (if_neg (by first | exact fun q => absurd q.1 (Int32.not_le.mpr h2) | exact fun q => absurd q.2 (Int32.not_le.mpr h7))).trans (if_neg (Int32.not_lt.mpr h18))
          rw [e]
        · refine gj_kc (v := (-1)) d_Ra_leastCents_21 (by decide) ?_
          refine gj_iret rfl (Nat.zero_le _) (Nat.zero_le _) d_Ra_leastCents_22 ?_
          exact gj_ei ((if_neg (by first | exact fun q => absurd q.1 (Int32.not_le.mpr h2) | exact fun q => absurd q.2 (Int32.not_le.mpr h7))).trans (if_pos (Int32.not_le.mp h18))).symm
      · refine gj_kc (v := 0) d_Ra_leastCents_10 (by decide) ?_
        refine gj_iret rfl (Nat.zero_le _) (Nat.zero_le _) d_Ra_leastCents_11 ?_
        exact gj_ei (if_pos ⟨Int32.not_lt.mp h2, Int32.not_lt.mp h7⟩).symm
theorem c_RB_present {d K N n x q mk : Nat} {C : Nat → va_E} {sh : Nat → Option Nat} (o1 : C (1) = .inr (0, [.ref (2), .ref (x), .ref (q), .ref (23), .int (nI mk), .ref (24), .ref (65), .ref (66)])) (hsh : C (23) = .inl (3, 20, .inr (.inr (.inr (.inr sh))))) {s : Int32} {y : Nat} (hp : pr_pn sh s = some y) : gj_G md_RB_present d K N 0 0 0 [(0, .ref 1), (1, .int s)] [] n C (fun r => r = (.inl (some (.ref y)), n, C)) := by
  obtain ⟨j, hj, hj1, hj2⟩ := pr_pn_some hp
  subst hj1
  refine gj_iload_n d_RB_present_0 rfl ?_
  refine gj_if_lt (tgt := 19) d_RB_present_1 (by decide) (fun h1 => by have m1 : j < 0 := (nI_ltI (a := j) (b := 0) (by omega) (by omega)).mp h1; exact absurd m1 (show ¬ (j < 0) from by omega)) (fun h1 => ?_)
  have m1 : ¬ (j < 0) := fun q => h1 ((nI_ltI (a := j) (b := 0) (by omega) (by omega)).mpr q)
  refine gj_iload_n d_RB_present_4 rfl ?_
  refine gj_kb (v := 20) d_RB_present_5 (by decide) ?_
  refine gj_icmp_ge (tgt := 19) d_RB_present_7 (by decide) (fun h7 => by have m7 : 20 ≤ j := (nI_leI (a := 20) (b := j) (by omega) (by omega)).mp h7; exact absurd m7 (show ¬ (20 ≤ j) from by omega)) (fun h7 => ?_)
  have m7 : ¬ (20 ≤ j) := fun q => h7 ((nI_leI (a := 20) (b := j) (by omega) (by omega)).mpr q)
  refine gj_aload_n d_RB_present_10 rfl ?_
  refine gj_get d_RB_present_11 gf_RB_28 o1 rfl ?_
  refine gj_iload_n d_RB_present_14 rfl ?_
  refine gj_aald d_RB_present_15 hsh rfl (vp_in_nI (by omega) (by decide)) ?_
  refine gj_topv (v := .ref (y)) (by rw [nI_clamp (by omega), hj2]; rfl) ?_
  refine gj_goto (tgt := 20) d_RB_present_16 (by decide) ?_
  refine gj_astore_n d_RB_present_20 (by decide) ?_
  refine gj_aload_n d_RB_present_21 rfl ?_
  refine gj_ifnonnull (tgt := 35) d_RB_present_22 (by decide) ?_
  refine gj_aload_n d_RB_present_35 rfl ?_
  refine gj_aret rfl (by first | exact Or.inr ⟨_, rfl⟩ | exact Or.inl rfl) (Nat.zero_le _) (Nat.zero_le _) d_RB_present_36 ?_
  exact rfl
set_option maxHeartbeats 2000000 in
theorem c_RB_present_x {d K N n x q mk : Nat} {C : Nat → va_E} {sh : Nat → Option Nat} (o1 : C (1) = .inr (0, [.ref (2), .ref (x), .ref (q), .ref (23), .int (nI mk), .ref (24), .ref (65), .ref (66)])) (hsh : C (23) = .inl (3, 20, .inr (.inr (.inr (.inr sh))))) {s : Int32} (hK : 1 ≤ K) (hN : 6 ≤ N) (hp : pr_pn sh s = none) : gj_G md_RB_present (d) K N 0 0 0 [(0, .ref (1)), (1, .int (s))] [] n C (fun r => r = (.inr "java/util/NoSuchElementException", n, C)) := by
  refine gj_iload_n d_RB_present_0 rfl ?_
  refine gj_if_lt (tgt := 19) d_RB_present_1 (by decide) (fun h1 => ?_) (fun h1 => ?_)
  · refine gj_null d_RB_present_19 ?_
    refine gj_astore_nN d_RB_present_20 (by decide) ?_
    refine gj_aload_nN d_RB_present_21 rfl ?_
    refine gj_ifnonnullN d_RB_present_22 ?_
    refine gj_throw2 tk_RB_present_25 d_RB_present_25 d_RB_present_28 d_RB_present_29 d_RB_present_31 d_RB_present_34 rfl (Nat.le_of_ble_eq_true rfl) (by omega) (by omega) ?_
    exact rfl
  · refine gj_iload_n d_RB_present_4 rfl ?_
    refine gj_kb (v := 20) d_RB_present_5 (by decide) ?_
    refine gj_icmp_ge (tgt := 19) d_RB_present_7 (by decide) (fun h7 => ?_) (fun h7 => ?_)
    · refine gj_null d_RB_present_19 ?_
      refine gj_astore_nN d_RB_present_20 (by decide) ?_
      refine gj_aload_nN d_RB_present_21 rfl ?_
      refine gj_ifnonnullN d_RB_present_22 ?_
      refine gj_throw2 tk_RB_present_25 d_RB_present_25 d_RB_present_28 d_RB_present_29 d_RB_present_31 d_RB_present_34 rfl (Nat.le_of_ble_eq_true rfl) (by omega) (by omega) ?_
      exact rfl
    · obtain ⟨j, hj, e⟩ := nI_of h1
      subst e
      have hj2 : j < 20 := Nat.lt_of_not_le (fun q => h7 ((nI_leI (a := 20) (by decide) hj).mpr q))
      have hn := hp
      rw [pr_pn_of hj2] at hn
      refine gj_aload_n d_RB_present_10 rfl ?_
      refine gj_get d_RB_present_11 gf_RB_28 o1 rfl ?_
      refine gj_iload_n d_RB_present_14 rfl ?_
      refine gj_aald d_RB_present_15 hsh rfl (vp_in_nI (by omega) (by decide)) ?_
      refine gj_topv (v := .null) (by rw [nI_clamp (by omega), hn]; rfl) ?_
      refine gj_goto (tgt := 20) d_RB_present_16 (by decide) ?_
      refine gj_astore_nN d_RB_present_20 (by decide) ?_
      refine gj_aload_nN d_RB_present_21 rfl ?_
      refine gj_ifnonnullN d_RB_present_22 ?_
      refine gj_throw2 tk_RB_present_25 d_RB_present_25 d_RB_present_28 d_RB_present_29 d_RB_present_31 d_RB_present_34 rfl (Nat.le_of_ble_eq_true rfl) (by omega) (by omega) ?_
      exact rfl
def pr_ad (s c l w : Int32) : Int32 := if w = 2 then 1 else if w = 3 then (if s = -1 then 0 else 1) else if w = 4 then (if s = -1 then 0 else c) else if w = 5 then (if l = -1 then 0 else l) else 0
set_option maxHeartbeats 2000000 in
theorem c_RB_addend {d K N n y : Nat} {C : Nat → va_E} {z g v s c l : Int32} (hy : C (y) = .inr (4, [.int (z), .int (g), .int (v), .int (s), .int (c), .int (l)])) {w : Int32} : gj_G md_RB_addend (d + 1) K N 0 0 0 [(0, .ref (y)), (1, .int (w))] [] n C (fun r => r = (gj_iv (pr_ad s c l w), n, C)) := by
  refine gj_iload_n d_RB_addend_0 rfl ?_
  -- switch
  by_cases s1_0 : w = 2
  · refine gj_tableIn (off := 31) (tgt := 32) d_RB_addend_1 (by rw [s1_0]; decide) (by rw [s1_0]; decide) (by rw [s1_0]; decide) (by decide) ?_
    refine gj_kc (v := 1) d_RB_addend_32 (by decide) ?_
    refine gj_iret rfl (Nat.zero_le _) (Nat.zero_le _) d_RB_addend_33 ?_
    subst s1_0
    exact gj_ei rfl
  · by_cases s1_1 : w = 3
    · refine gj_tableIn (off := 33) (tgt := 34) d_RB_addend_1 (by rw [s1_1]; decide) (by rw [s1_1]; decide) (by rw [s1_1]; decide) (by decide) ?_
      refine gj_aload_n d_RB_addend_34 rfl ?_
      refine gj_callV (as := []) (rest := []) (K1 := 0) (N1 := 0) d_RB_addend_35 mo_Sh_isBooked gw_224 gw_225 gw_226 hy rfl pl_Sh_isBooked (Nat.le_of_ble_eq_true rfl) (Nat.le_of_ble_eq_true rfl) (Nat.zero_le _) (Nat.zero_le _) (c_Sh_isBooked hy) (fun E n' C' _ h => by cases h) (fun v n' C' _ h => ?_)
      cases h
      refine gj_if_eq (tgt := 45) d_RB_addend_38 (by decide) (fun h38 => ?_) (fun h38 => ?_)
      · refine gj_kc (v := 0) d_RB_addend_45 (by decide) ?_
        refine gj_iret rfl (Nat.zero_le _) (Nat.zero_le _) d_RB_addend_46 ?_
        subst s1_1
        have e : s = -1 := by
          by_cases q : s = -1
          · exact q
          · rw [if_neg q] at h38; exact absurd h38 (by decide)
        exact gj_ei (by unfold pr_ad; simp [e])
      · refine gj_kc (v := 1) d_RB_addend_41 (by decide) ?_
        refine gj_goto (tgt := 46) d_RB_addend_42 (by decide) ?_
        refine gj_iret rfl (Nat.zero_le _) (Nat.zero_le _) d_RB_addend_46 ?_
        subst s1_1
        have e : ¬ s = -1 := by
          by_cases q : s = -1
          · exact absurd (if_pos q) h38
          · exact q
        exact gj_ei (by unfold pr_ad; simp [e])
    · by_cases s1_2 : w = 4
      · refine gj_tableIn (off := 46) (tgt := 47) d_RB_addend_1 (by rw [s1_2]; decide) (by rw [s1_2]; decide) (by rw [s1_2]; decide) (by decide) ?_
        refine gj_aload_n d_RB_addend_47 rfl ?_
        refine gj_callV (as := []) (rest := []) (K1 := 0) (N1 := 0) d_RB_addend_48 mo_Sh_isBooked gw_224 gw_225 gw_226 hy rfl pl_Sh_isBooked (Nat.le_of_ble_eq_true rfl) (Nat.le_of_ble_eq_true rfl) (Nat.zero_le _) (Nat.zero_le _) (c_Sh_isBooked hy) (fun E n' C' _ h => by cases h) (fun v n' C' _ h => ?_)
        cases h
        refine gj_if_eq (tgt := 61) d_RB_addend_51 (by decide) (fun h51 => ?_) (fun h51 => ?_)
        · refine gj_kc (v := 0) d_RB_addend_61 (by decide) ?_
          refine gj_iret rfl (Nat.zero_le _) (Nat.zero_le _) d_RB_addend_62 ?_
          subst s1_2
          have e : s = -1 := by
            by_cases q : s = -1
            · exact q
            · rw [if_neg q] at h51; exact absurd h51 (by decide)
          exact gj_ei (by unfold pr_ad; simp [e])
        · refine gj_aload_n d_RB_addend_54 rfl ?_
          refine gj_get d_RB_addend_55 gf_RB_141 hy rfl ?_
          refine gj_goto (tgt := 62) d_RB_addend_58 (by decide) ?_
          refine gj_iret rfl (Nat.zero_le _) (Nat.zero_le _) d_RB_addend_62 ?_
          subst s1_2
          have e : ¬ s = -1 := by
            by_cases q : s = -1
            · exact absurd (if_pos q) h51
            · exact q
          exact gj_ei (by unfold pr_ad; simp [e])
      · by_cases s1_3 : w = 5
        · refine gj_tableIn (off := 62) (tgt := 63) d_RB_addend_1 (by rw [s1_3]; decide) (by rw [s1_3]; decide) (by rw [s1_3]; decide) (by decide) ?_
          refine gj_aload_n d_RB_addend_63 rfl ?_
          refine gj_callV (as := []) (rest := []) (K1 := 0) (N1 := 0) d_RB_addend_64 mo_Sh_isInvoiced gw_228 gw_229 gw_230 hy rfl pl_Sh_isInvoiced (Nat.le_of_ble_eq_true rfl) (Nat.le_of_ble_eq_true rfl) (Nat.zero_le _) (Nat.zero_le _) (c_Sh_isInvoiced hy) (fun E n' C' _ h => by cases h) (fun v n' C' _ h => ?_)
          cases h
          refine gj_if_eq (tgt := 77) d_RB_addend_67 (by decide) (fun h67 => ?_) (fun h67 => ?_)
          · refine gj_kc (v := 0) d_RB_addend_77 (by decide) ?_
            refine gj_iret rfl (Nat.zero_le _) (Nat.zero_le _) d_RB_addend_78 ?_
            subst s1_3
            have e : l = -1 := by
              by_cases q : l = -1
              · exact q
              · rw [if_neg q] at h67; exact absurd h67 (by decide)
            exact gj_ei (by unfold pr_ad; simp [e])
          · refine gj_aload_n d_RB_addend_70 rfl ?_
            refine gj_get d_RB_addend_71 gf_RB_161 hy rfl ?_
            refine gj_goto (tgt := 78) d_RB_addend_74 (by decide) ?_
            refine gj_iret rfl (Nat.zero_le _) (Nat.zero_le _) d_RB_addend_78 ?_
            subst s1_3
            have e : ¬ l = -1 := by
              by_cases q : l = -1
              · exact absurd (if_pos q) h67
              · exact q
            exact gj_ei (by unfold pr_ad; simp [e])
        · have a1_0 : ¬ (w : Int32).toInt = 2 := fun h => s1_0 (Int32.toInt_inj.mp (h.trans (by decide)))
          have a1_1 : ¬ (w : Int32).toInt = 3 := fun h => s1_1 (Int32.toInt_inj.mp (h.trans (by decide)))
          have a1_2 : ¬ (w : Int32).toInt = 4 := fun h => s1_2 (Int32.toInt_inj.mp (h.trans (by decide)))
          have a1_3 : ¬ (w : Int32).toInt = 5 := fun h => s1_3 (Int32.toInt_inj.mp (h.trans (by decide)))
          refine gj_tableOut (tgt := 79) d_RB_addend_1 (by omega) (by decide) ?_
          refine gj_kc (v := 0) d_RB_addend_79 (by decide) ?_
          refine gj_iret rfl (Nat.zero_le _) (Nat.zero_le _) d_RB_addend_80 ?_
          exact gj_ei (by unfold pr_ad; rw [if_neg s1_0, if_neg s1_1, if_neg s1_2, if_neg s1_3])
