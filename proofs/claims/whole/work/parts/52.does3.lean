/-! the public methods of RateBreaks: what they do, third part -/
set_option maxHeartbeats 2000000 in
theorem c_RB_contract_x2 {d K N n x q mk j sz : Nat} {C : Nat → va_E} {co : Nat → Option Nat} {fr up dn : Nat → Int32} (o1 : C (1) = .inr (0, [.ref (2), .ref (x), .ref (q), .ref (23), .int (nI mk), .ref (24), .ref (65), .ref (66)])) (o24 : C (24) = .inl (4, 10, .inr (.inr (.inr (.inr co))))) (r0 : C (25 + 4 * j) = .inr (3, [.ref (25 + 4 * j + 1), .ref (25 + 4 * j + 2), .ref (25 + 4 * j + 3), .int (nI sz)])) (r1 : C (25 + 4 * j + 1) = .inl (0, 4, .inl fr)) (r2 : C (25 + 4 * j + 2) = .inl (0, 4, .inl up)) (r3 : C (25 + 4 * j + 3) = .inl (0, 4, .inl dn)) (hco : co j = some (25 + 4 * j)) (hsz : sz ≤ 4) (hj : j < 10) (hK : 1 ≤ K) (hN : 6 ≤ N) {fm u dw : Int32} (h : (0 ≤ fm ∧ fm ≤ 100) ∧ (1 ≤ dw ∧ dw ≤ 1000) ∧ (0 ≤ u ∧ u ≤ dw)) (hr : ¬ pf_pl fr fm sz 0 < 4) : gj_G md_RB_contract (d + 3) K N 0 0 0 [(0, .ref (1)), (1, .int (nI j)), (2, .int (fm)), (3, .int (u)), (4, .int (dw))] [] (n) C (fun r => r = (.inr "java/lang/UnsupportedOperationException", n, C)) := by
  refine gj_iload_n d_RB_contract_0 rfl ?_
  refine gj_callS (as := [.int (nI j)]) (rest := []) (K1 := 0) (N1 := 0) d_RB_contract_1 mo_RB_needService gw_405 gw_406 gw_20 pl_RB_needService (Nat.le_of_ble_eq_true rfl) (Nat.le_of_ble_eq_true rfl) (Nat.zero_le _) (Nat.zero_le _) (c_RB_needService (pc_svc hj).1 (pc_svc hj).2) (fun E n' C' _ h => by cases h) (fun v n' C' _ h => ?_)
  cases h
  refine gj_iload_n d_RB_contract_4 rfl ?_
  refine gj_kc (v := 0) d_RB_contract_5 (by decide) ?_
  refine gj_kb (v := 100) d_RB_contract_6 (by decide) ?_
  refine gj_callS (as := [.int (fm), .int (0), .int (100)]) (rest := []) (K1 := 0) (N1 := 0) d_RB_contract_8 mo_RB_needWithin gw_241 gw_242 gw_20 pl_RB_needWithin (Nat.le_of_ble_eq_true rfl) (Nat.le_of_ble_eq_true rfl) (Nat.zero_le _) (Nat.zero_le _) (c_RB_needWithin h.1.1 h.1.2) (fun E n' C' _ h => by cases h) (fun v n' C' _ h => ?_)
  cases h
  refine gj_iload d_RB_contract_11 rfl ?_
  refine gj_kc (v := 1) d_RB_contract_13 (by decide) ?_
  refine gj_ks (v := 1000) d_RB_contract_14 (by decide) ?_
  refine gj_callS (as := [.int (dw), .int (1), .int (1000)]) (rest := []) (K1 := 0) (N1 := 0) d_RB_contract_17 mo_RB_needWithin gw_241 gw_242 gw_20 pl_RB_needWithin (Nat.le_of_ble_eq_true rfl) (Nat.le_of_ble_eq_true rfl) (Nat.zero_le _) (Nat.zero_le _) (c_RB_needWithin h.2.1.1 h.2.1.2) (fun E n' C' _ h => by cases h) (fun v n' C' _ h => ?_)
  cases h
  refine gj_iload_n d_RB_contract_20 rfl ?_
  refine gj_kc (v := 0) d_RB_contract_21 (by decide) ?_
  refine gj_iload d_RB_contract_22 rfl ?_
  refine gj_callS (as := [.int (u), .int (0), .int (dw)]) (rest := []) (K1 := 0) (N1 := 0) d_RB_contract_24 mo_RB_needWithin gw_241 gw_242 gw_20 pl_RB_needWithin (Nat.le_of_ble_eq_true rfl) (Nat.le_of_ble_eq_true rfl) (Nat.zero_le _) (Nat.zero_le _) (c_RB_needWithin h.2.2.1 h.2.2.2) (fun E n' C' _ h => by cases h) (fun v n' C' _ h => ?_)
  cases h
  refine gj_aload_n d_RB_contract_27 rfl ?_
  refine gj_get d_RB_contract_28 gf_RB_38 o1 rfl ?_
  refine gj_iload_n d_RB_contract_31 rfl ?_
  refine gj_aald d_RB_contract_32 o24 rfl (vp_in_nI (by omega) (by decide)) ?_
  refine gj_topv (v := .ref (25 + 4 * j)) (by rw [nI_clamp (by omega), hco]; rfl) ?_
  refine gj_astore d_RB_contract_33 (by decide) ?_
  refine gj_aload d_RB_contract_35 rfl ?_
  refine gj_iload_n d_RB_contract_37 rfl ?_
  refine gj_callS (as := [.ref (25 + 4 * j), .int (fm)]) (rest := []) (K1 := 1) (N1 := 6) d_RB_contract_38 mo_RB_needRoom gw_490 gw_491 gw_20 pl_RB_needRoom (Nat.le_of_ble_eq_true rfl) (Nat.le_of_ble_eq_true rfl) (by omega) (by omega) (c_RB_needRoom_x r0 r1 hsz (by omega) (Nat.le_refl 1) (Nat.le_refl 6) hr) (fun E n38 C38 g38 q38 => ?_) (fun v n' C' _ h => by cases h)
  cases q38
  exact gj_xout rfl (by omega) (by omega) rfl
set_option maxHeartbeats 2000000 in
theorem c_RB_contract {d K N n x q mk j sz : Nat} {C : Nat → va_E} {co : Nat → Option Nat} {fr up dn : Nat → Int32} (o1 : C (1) = .inr (0, [.ref (2), .ref (x), .ref (q), .ref (23), .int (nI mk), .ref (24), .ref (65), .ref (66)])) (o24 : C (24) = .inl (4, 10, .inr (.inr (.inr (.inr co))))) (r0 : C (25 + 4 * j) = .inr (3, [.ref (25 + 4 * j + 1), .ref (25 + 4 * j + 2), .ref (25 + 4 * j + 3), .int (nI sz)])) (r1 : C (25 + 4 * j + 1) = .inl (0, 4, .inl fr)) (r2 : C (25 + 4 * j + 2) = .inl (0, 4, .inl up)) (r3 : C (25 + 4 * j + 3) = .inl (0, 4, .inl dn)) (hco : co j = some (25 + 4 * j)) (hsz : sz ≤ 4) (hj : j < 10) {fm u dw : Int32} (h : (0 ≤ fm ∧ fm ≤ 100) ∧ (1 ≤ dw ∧ dw ≤ 1000) ∧ (0 ≤ u ∧ u ≤ dw)) (hr : pf_pl fr fm sz 0 < 4) : gj_G md_RB_contract (d + 3) K N 0 0 0 [(0, .ref (1)), (1, .int (nI j)), (2, .int (fm)), (3, .int (u)), (4, .int (dw))] [] (n) C (fun r => r.1 = gj_iv (nI (max sz (pf_pl fr fm sz 0 + 1))) ∧ r.2.1 = n ∧ pr_R r.2.2 (25 + 4 * j) 4 (upd fr (pf_pl fr fm sz 0) fm) (upd up (pf_pl fr fm sz 0) u) (upd dn (pf_pl fr fm sz 0) dw) (max sz (pf_pl fr fm sz 0 + 1)) ∧ ∀ y, y < 25 + 4 * j ∨ 25 + 4 * j + 3 < y → r.2.2 y = C y) := by
  refine gj_iload_n d_RB_contract_0 rfl ?_
  refine gj_callS (as := [.int (nI j)]) (rest := []) (K1 := 0) (N1 := 0) d_RB_contract_1 mo_RB_needService gw_405 gw_406 gw_20 pl_RB_needService (Nat.le_of_ble_eq_true rfl) (Nat.le_of_ble_eq_true rfl) (Nat.zero_le _) (Nat.zero_le _) (c_RB_needService (pc_svc hj).1 (pc_svc hj).2) (fun E n' C' _ h => by cases h) (fun v n' C' _ h => ?_)
  cases h
  refine gj_iload_n d_RB_contract_4 rfl ?_
  refine gj_kc (v := 0) d_RB_contract_5 (by decide) ?_
  refine gj_kb (v := 100) d_RB_contract_6 (by decide) ?_
  refine gj_callS (as := [.int (fm), .int (0), .int (100)]) (rest := []) (K1 := 0) (N1 := 0) d_RB_contract_8 mo_RB_needWithin gw_241 gw_242 gw_20 pl_RB_needWithin (Nat.le_of_ble_eq_true rfl) (Nat.le_of_ble_eq_true rfl) (Nat.zero_le _) (Nat.zero_le _) (c_RB_needWithin h.1.1 h.1.2) (fun E n' C' _ h => by cases h) (fun v n' C' _ h => ?_)
  cases h
  refine gj_iload d_RB_contract_11 rfl ?_
  refine gj_kc (v := 1) d_RB_contract_13 (by decide) ?_
  refine gj_ks (v := 1000) d_RB_contract_14 (by decide) ?_
  refine gj_callS (as := [.int (dw), .int (1), .int (1000)]) (rest := []) (K1 := 0) (N1 := 0) d_RB_contract_17 mo_RB_needWithin gw_241 gw_242 gw_20 pl_RB_needWithin (Nat.le_of_ble_eq_true rfl) (Nat.le_of_ble_eq_true rfl) (Nat.zero_le _) (Nat.zero_le _) (c_RB_needWithin h.2.1.1 h.2.1.2) (fun E n' C' _ h => by cases h) (fun v n' C' _ h => ?_)
  cases h
  refine gj_iload_n d_RB_contract_20 rfl ?_
  refine gj_kc (v := 0) d_RB_contract_21 (by decide) ?_
  refine gj_iload d_RB_contract_22 rfl ?_
  refine gj_callS (as := [.int (u), .int (0), .int (dw)]) (rest := []) (K1 := 0) (N1 := 0) d_RB_contract_24 mo_RB_needWithin gw_241 gw_242 gw_20 pl_RB_needWithin (Nat.le_of_ble_eq_true rfl) (Nat.le_of_ble_eq_true rfl) (Nat.zero_le _) (Nat.zero_le _) (c_RB_needWithin h.2.2.1 h.2.2.2) (fun E n' C' _ h => by cases h) (fun v n' C' _ h => ?_)
  cases h
  refine gj_aload_n d_RB_contract_27 rfl ?_
  refine gj_get d_RB_contract_28 gf_RB_38 o1 rfl ?_
  refine gj_iload_n d_RB_contract_31 rfl ?_
  refine gj_aald d_RB_contract_32 o24 rfl (vp_in_nI (by omega) (by decide)) ?_
  refine gj_topv (v := .ref (25 + 4 * j)) (by rw [nI_clamp (by omega), hco]; rfl) ?_
  refine gj_astore d_RB_contract_33 (by decide) ?_
  refine gj_aload d_RB_contract_35 rfl ?_
  refine gj_iload_n d_RB_contract_37 rfl ?_
  refine gj_callS (as := [.ref (25 + 4 * j), .int (fm)]) (rest := []) (K1 := 0) (N1 := 0) d_RB_contract_38 mo_RB_needRoom gw_490 gw_491 gw_20 pl_RB_needRoom (Nat.le_of_ble_eq_true rfl) (Nat.le_of_ble_eq_true rfl) (Nat.zero_le _) (Nat.zero_le _) (c_RB_needRoom r0 r1 hsz (by omega) hr) (fun E n' C' _ h => by cases h) (fun v n' C' _ h => ?_)
  cases h
  refine gj_aload d_RB_contract_41 rfl ?_
  refine gj_iload_n d_RB_contract_43 rfl ?_
  refine gj_iload_n d_RB_contract_44 rfl ?_
  refine gj_iload d_RB_contract_45 rfl ?_
  refine gj_callV (as := [.int (fm), .int (u), .int (dw)]) (rest := []) (K1 := 0) (N1 := 0) d_RB_contract_47 mo_Ro_put gw_502 gw_503 gw_504 r0 rfl pl_Ro_put (Nat.le_of_ble_eq_true rfl) (Nat.le_of_ble_eq_true rfl) (Nat.zero_le _) (Nat.zero_le _) (c_Ro_put (x := 25 + 4 * j) r0 r1 r2 r3 hsz (by omega) hr) (fun E n' C' _ h => by obtain ⟨hv, -⟩ := h; exact nomatch hv) (fun v1 n1 C1 _ h1 => ?_)
  obtain ⟨hv1, hn1, u1_0, u1_1, u1_2, u1_3, hr1⟩ := h1
  dsimp only [gj_iv, gj_vv, gj_lv2] at hv1 hn1 hr1 u1_0 u1_1 u1_2 u1_3
  cases hv1; cases hn1
  have f2 : C1 (1) = .inr (0, [.ref (2), .ref (x), .ref (q), .ref (23), .int (nI mk), .ref (24), .ref (65), .ref (66)]) := (hr1 _ (by omega) (by omega) (by omega) (by omega)).trans o1
  have f3 : C1 (24) = .inl (4, 10, .inr (.inr (.inr (.inr co)))) := (hr1 _ (by omega) (by omega) (by omega) (by omega)).trans o24
  refine gj_aload d_RB_contract_50 rfl ?_
  refine gj_get d_RB_contract_52 gf_RB_124 u1_0 rfl ?_
  refine gj_iret rfl (Nat.zero_le _) (Nat.zero_le _) d_RB_contract_55 ?_
  exact ⟨rfl, rfl, ⟨u1_0, u1_1, u1_2, u1_3⟩, fun y hy => hr1 y (by omega) (by omega) (by omega) (by omega)⟩
set_option maxHeartbeats 2000000 in
theorem c_RB_currency_x2 {d K N n x q mk cs : Nat} {C : Nat → va_E} {cf cu cd : Nat → Int32} (o1 : C (1) = .inr (0, [.ref (2), .ref (x), .ref (q), .ref (23), .int (nI mk), .ref (24), .ref (65), .ref (66)])) (c0 : C (66) = .inr (3, [.ref (67), .ref (68), .ref (69), .int (nI cs)])) (c1 : C (67) = .inl (0, 8, .inl cf)) (c2 : C (68) = .inl (0, 8, .inl cu)) (c3 : C (69) = .inl (0, 8, .inl cd)) (hsz : cs ≤ 8) (hK : 1 ≤ K) (hN : 6 ≤ N) {dy u dw : Int32} (h : (0 ≤ dy ∧ dy ≤ 10000) ∧ (1 ≤ u ∧ u ≤ 100000) ∧ (1 ≤ dw ∧ dw ≤ 100000)) (hr : ¬ pf_pl cf dy cs 0 < 8) : gj_G md_RB_currency (d + 3) K N 0 0 0 [(0, .ref (1)), (1, .int (dy)), (2, .int (u)), (3, .int (dw))] [] (n) C (fun r => r = (.inr "java/lang/UnsupportedOperationException", n, C)) := by
  refine gj_iload_n d_RB_currency_0 rfl ?_
  refine gj_kc (v := 0) d_RB_currency_1 (by decide) ?_
  refine gj_ks (v := 10000) d_RB_currency_2 (by decide) ?_
  refine gj_callS (as := [.int (dy), .int (0), .int (10000)]) (rest := []) (K1 := 0) (N1 := 0) d_RB_currency_5 mo_RB_needWithin gw_241 gw_242 gw_20 pl_RB_needWithin (Nat.le_of_ble_eq_true rfl) (Nat.le_of_ble_eq_true rfl) (Nat.zero_le _) (Nat.zero_le _) (c_RB_needWithin h.1.1 h.1.2) (fun E n' C' _ h => by cases h) (fun v n' C' _ h => ?_)
  cases h
  refine gj_iload_n d_RB_currency_8 rfl ?_
  refine gj_kc (v := 1) d_RB_currency_9 (by decide) ?_
  refine gj_ldc d_RB_currency_10 gw_341 ?_
  refine gj_callS (as := [.int (u), .int (1), .int (100000)]) (rest := []) (K1 := 0) (N1 := 0) d_RB_currency_12 mo_RB_needWithin gw_241 gw_242 gw_20 pl_RB_needWithin (Nat.le_of_ble_eq_true rfl) (Nat.le_of_ble_eq_true rfl) (Nat.zero_le _) (Nat.zero_le _) (c_RB_needWithin h.2.1.1 h.2.1.2) (fun E n' C' _ h => by cases h) (fun v n' C' _ h => ?_)
  cases h
  refine gj_iload_n d_RB_currency_15 rfl ?_
  refine gj_kc (v := 1) d_RB_currency_16 (by decide) ?_
  refine gj_ldc d_RB_currency_17 gw_341 ?_
  refine gj_callS (as := [.int (dw), .int (1), .int (100000)]) (rest := []) (K1 := 0) (N1 := 0) d_RB_currency_19 mo_RB_needWithin gw_241 gw_242 gw_20 pl_RB_needWithin (Nat.le_of_ble_eq_true rfl) (Nat.le_of_ble_eq_true rfl) (Nat.zero_le _) (Nat.zero_le _) (c_RB_needWithin h.2.2.1 h.2.2.2) (fun E n' C' _ h => by cases h) (fun v n' C' _ h => ?_)
  cases h
  refine gj_aload_n d_RB_currency_22 rfl ?_
  refine gj_get d_RB_currency_23 gf_RB_49 o1 rfl ?_
  refine gj_iload_n d_RB_currency_26 rfl ?_
  refine gj_callS (as := [.ref (66), .int (dy)]) (rest := []) (K1 := 1) (N1 := 6) d_RB_currency_27 mo_RB_needRoom gw_490 gw_491 gw_20 pl_RB_needRoom (Nat.le_of_ble_eq_true rfl) (Nat.le_of_ble_eq_true rfl) (by omega) (by omega) (c_RB_needRoom_x (x := 66) c0 c1 hsz (by omega) (Nat.le_refl 1) (Nat.le_refl 6) hr) (fun E n27 C27 g27 q27 => ?_) (fun v n' C' _ h => by cases h)
  cases q27
  exact gj_xout rfl (by omega) (by omega) rfl
set_option maxHeartbeats 2000000 in
theorem c_RB_currency {d K N n x q mk cs : Nat} {C : Nat → va_E} {cf cu cd : Nat → Int32} (o1 : C (1) = .inr (0, [.ref (2), .ref (x), .ref (q), .ref (23), .int (nI mk), .ref (24), .ref (65), .ref (66)])) (c0 : C (66) = .inr (3, [.ref (67), .ref (68), .ref (69), .int (nI cs)])) (c1 : C (67) = .inl (0, 8, .inl cf)) (c2 : C (68) = .inl (0, 8, .inl cu)) (c3 : C (69) = .inl (0, 8, .inl cd)) (hsz : cs ≤ 8) {dy u dw : Int32} (h : (0 ≤ dy ∧ dy ≤ 10000) ∧ (1 ≤ u ∧ u ≤ 100000) ∧ (1 ≤ dw ∧ dw ≤ 100000)) (hr : pf_pl cf dy cs 0 < 8) : gj_G md_RB_currency (d + 3) K N 0 0 0 [(0, .ref (1)), (1, .int (dy)), (2, .int (u)), (3, .int (dw))] [] (n) C (fun r => r.1 = gj_iv (nI (max cs (pf_pl cf dy cs 0 + 1))) ∧ r.2.1 = n ∧ pr_R r.2.2 (66) 8 (upd cf (pf_pl cf dy cs 0) dy) (upd cu (pf_pl cf dy cs 0) u) (upd cd (pf_pl cf dy cs 0) dw) (max cs (pf_pl cf dy cs 0 + 1)) ∧ ∀ y, y < 66 ∨ 69 < y → r.2.2 y = C y) := by
  refine gj_iload_n d_RB_currency_0 rfl ?_
  refine gj_kc (v := 0) d_RB_currency_1 (by decide) ?_
  refine gj_ks (v := 10000) d_RB_currency_2 (by decide) ?_
  refine gj_callS (as := [.int (dy), .int (0), .int (10000)]) (rest := []) (K1 := 0) (N1 := 0) d_RB_currency_5 mo_RB_needWithin gw_241 gw_242 gw_20 pl_RB_needWithin (Nat.le_of_ble_eq_true rfl) (Nat.le_of_ble_eq_true rfl) (Nat.zero_le _) (Nat.zero_le _) (c_RB_needWithin h.1.1 h.1.2) (fun E n' C' _ h => by cases h) (fun v n' C' _ h => ?_)
  cases h
  refine gj_iload_n d_RB_currency_8 rfl ?_
  refine gj_kc (v := 1) d_RB_currency_9 (by decide) ?_
  refine gj_ldc d_RB_currency_10 gw_341 ?_
  refine gj_callS (as := [.int (u), .int (1), .int (100000)]) (rest := []) (K1 := 0) (N1 := 0) d_RB_currency_12 mo_RB_needWithin gw_241 gw_242 gw_20 pl_RB_needWithin (Nat.le_of_ble_eq_true rfl) (Nat.le_of_ble_eq_true rfl) (Nat.zero_le _) (Nat.zero_le _) (c_RB_needWithin h.2.1.1 h.2.1.2) (fun E n' C' _ h => by cases h) (fun v n' C' _ h => ?_)
  cases h
  refine gj_iload_n d_RB_currency_15 rfl ?_
  refine gj_kc (v := 1) d_RB_currency_16 (by decide) ?_
  refine gj_ldc d_RB_currency_17 gw_341 ?_
  refine gj_callS (as := [.int (dw), .int (1), .int (100000)]) (rest := []) (K1 := 0) (N1 := 0) d_RB_currency_19 mo_RB_needWithin gw_241 gw_242 gw_20 pl_RB_needWithin (Nat.le_of_ble_eq_true rfl) (Nat.le_of_ble_eq_true rfl) (Nat.zero_le _) (Nat.zero_le _) (c_RB_needWithin h.2.2.1 h.2.2.2) (fun E n' C' _ h => by cases h) (fun v n' C' _ h => ?_)
  cases h
  refine gj_aload_n d_RB_currency_22 rfl ?_
  refine gj_get d_RB_currency_23 gf_RB_49 o1 rfl ?_
  refine gj_iload_n d_RB_currency_26 rfl ?_
  refine gj_callS (as := [.ref (66), .int (dy)]) (rest := []) (K1 := 0) (N1 := 0) d_RB_currency_27 mo_RB_needRoom gw_490 gw_491 gw_20 pl_RB_needRoom (Nat.le_of_ble_eq_true rfl) (Nat.le_of_ble_eq_true rfl) (Nat.zero_le _) (Nat.zero_le _) (c_RB_needRoom (x := 66) c0 c1 hsz (by omega) hr) (fun E n' C' _ h => by cases h) (fun v n' C' _ h => ?_)
  cases h
  refine gj_aload_n d_RB_currency_30 rfl ?_
  refine gj_get d_RB_currency_31 gf_RB_49 o1 rfl ?_
  refine gj_iload_n d_RB_currency_34 rfl ?_
  refine gj_iload_n d_RB_currency_35 rfl ?_
  refine gj_iload_n d_RB_currency_36 rfl ?_
  refine gj_callV (as := [.int (dy), .int (u), .int (dw)]) (rest := []) (K1 := 0) (N1 := 0) d_RB_currency_37 mo_Ro_put gw_502 gw_503 gw_504 c0 rfl pl_Ro_put (Nat.le_of_ble_eq_true rfl) (Nat.le_of_ble_eq_true rfl) (Nat.zero_le _) (Nat.zero_le _) (c_Ro_put (x := 66) c0 c1 c2 c3 hsz (by omega) hr) (fun E n' C' _ h => by obtain ⟨hv, -⟩ := h; exact nomatch hv) (fun v1 n1 C1 _ h1 => ?_)
  obtain ⟨hv1, hn1, u1_0, u1_1, u1_2, u1_3, hr1⟩ := h1
  dsimp only [gj_iv, gj_vv, gj_lv2] at hv1 hn1 hr1 u1_0 u1_1 u1_2 u1_3
  cases hv1; cases hn1
  have f2 : C1 (1) = .inr (0, [.ref (2), .ref (x), .ref (q), .ref (23), .int (nI mk), .ref (24), .ref (65), .ref (66)]) := (hr1 _ (by omega) (by omega) (by omega) (by omega)).trans o1
  refine gj_aload_n d_RB_currency_40 rfl ?_
  refine gj_get d_RB_currency_41 gf_RB_49 f2 rfl ?_
  refine gj_get d_RB_currency_44 gf_RB_124 u1_0 rfl ?_
  refine gj_iret rfl (Nat.zero_le _) (Nat.zero_le _) d_RB_currency_47 ?_
  exact ⟨rfl, rfl, ⟨u1_0, u1_1, u1_2, u1_3⟩, fun y hy => hr1 y (by omega) (by omega) (by omega) (by omega)⟩
def pc_cv (ct : Int32) (up dn : Nat → Int32) : Option Nat → Int64
  | none => -1
  | some p => (ct.toInt64 * (up p).toInt64) / (dn p).toInt64
set_option maxHeartbeats 2000000 in
theorem c_RB_converted {d K N n x q mk cs : Nat} {C : Nat → va_E} {cf cu cd : Nat → Int32} (o1 : C (1) = .inr (0, [.ref (2), .ref (x), .ref (q), .ref (23), .int (nI mk), .ref (24), .ref (65), .ref (66)])) (c0 : C (66) = .inr (3, [.ref (67), .ref (68), .ref (69), .int (nI cs)])) (c1 : C (67) = .inl (0, 8, .inl cf)) (c2 : C (68) = .inl (0, 8, .inl cu)) (c3 : C (69) = .inl (0, 8, .inl cd)) (hsz : cs ≤ 8) {ct dy : Int32} (h : (0 ≤ ct ∧ ct ≤ 10000000) ∧ (0 ≤ dy ∧ dy ≤ 10000)) (hdn : ∀ p, p < cs → ¬ cd p = 0) : gj_G md_RB_converted (d + 1) K N 0 0 0 [(0, .ref (1)), (1, .int (ct)), (2, .int (dy))] [] (n) C (fun r => r = (gj_lv2 (pc_cv ct cu cd (pf_la cf dy cs 0 none)), n, C)) := by
  refine gj_iload_n d_RB_converted_0 rfl ?_
  refine gj_kc (v := 0) d_RB_converted_1 (by decide) ?_
  refine gj_ldc d_RB_converted_2 gw_549 ?_
  refine gj_callS (as := [.int (ct), .int (0), .int (10000000)]) (rest := []) (K1 := 0) (N1 := 0) d_RB_converted_4 mo_RB_needWithin gw_241 gw_242 gw_20 pl_RB_needWithin (Nat.le_of_ble_eq_true rfl) (Nat.le_of_ble_eq_true rfl) (Nat.zero_le _) (Nat.zero_le _) (c_RB_needWithin h.1.1 h.1.2) (fun E n' C' _ h => by cases h) (fun v n' C' _ h => ?_)
  cases h
  refine gj_iload_n d_RB_converted_7 rfl ?_
  refine gj_kc (v := 0) d_RB_converted_8 (by decide) ?_
  refine gj_ks (v := 10000) d_RB_converted_9 (by decide) ?_
  refine gj_callS (as := [.int (dy), .int (0), .int (10000)]) (rest := []) (K1 := 0) (N1 := 0) d_RB_converted_12 mo_RB_needWithin gw_241 gw_242 gw_20 pl_RB_needWithin (Nat.le_of_ble_eq_true rfl) (Nat.le_of_ble_eq_true rfl) (Nat.zero_le _) (Nat.zero_le _) (c_RB_needWithin h.2.1 h.2.2) (fun E n' C' _ h => by cases h) (fun v n' C' _ h => ?_)
  cases h
  refine gj_aload_n d_RB_converted_15 rfl ?_
  refine gj_get d_RB_converted_16 gf_RB_49 o1 rfl ?_
  refine gj_iload_n d_RB_converted_19 rfl ?_
  refine gj_callV (as := [.int (dy)]) (rest := []) (K1 := 0) (N1 := 0) d_RB_converted_20 mo_Ro_latest gw_459 gw_460 gw_461 c0 rfl pl_Ro_latest (Nat.le_of_ble_eq_true rfl) (Nat.le_of_ble_eq_true rfl) (Nat.zero_le _) (Nat.zero_le _) (c_Ro_latest (x := 66) c0 c1 hsz (by omega)) (fun E n' C' _ h => by cases h) (fun v n' C' _ h => ?_)
  cases h
  rcases ho : pf_la cf dy cs 0 none with _ | p
  · refine gj_top (y := -1) rfl ?_
    refine gj_istore_n d_RB_converted_23 (by decide) ?_
    refine gj_iload_n d_RB_converted_24 rfl ?_
    refine gj_kc (v := (-1)) d_RB_converted_25 (by decide) ?_
    refine gj_icmp_ne (tgt := 33) d_RB_converted_26 (by decide) (fun h26 => absurd (rfl) h26) (fun h26 => ?_)
    refine gj_ldc2 d_RB_converted_29 gw_581 ?_
    refine gj_lret rfl (Nat.zero_le _) (Nat.zero_le _) d_RB_converted_32 ?_
    exact rfl
  · have hp := pf_la_lt cf dy cs 0 none (fun _ h => nomatch h) p ho
    refine gj_top (y := nI p) rfl ?_
    refine gj_istore_n d_RB_converted_23 (by decide) ?_
    refine gj_iload_n d_RB_converted_24 rfl ?_
    refine gj_kc (v := (-1)) d_RB_converted_25 (by decide) ?_
    refine gj_icmp_ne (tgt := 33) d_RB_converted_26 (by decide) (fun h26 => ?_) (fun h26 => absurd h26 (nI_m1 (by omega)))
    refine gj_iload_n d_RB_converted_33 rfl ?_
    refine gj_i2l d_RB_converted_34 ?_
    refine gj_aload_n d_RB_converted_35 rfl ?_
    refine gj_get d_RB_converted_36 gf_RB_49 o1 rfl ?_
    refine gj_get d_RB_converted_39 gf_RB_177 c0 rfl ?_
    refine gj_iload_n d_RB_converted_42 rfl ?_
    refine gj_iald d_RB_converted_43 c2 rfl (vp_in_nI (by omega) (by decide)) ?_
    refine gj_top (y := cu (p)) (congrArg cu (nI_clamp (by omega))) ?_
    refine gj_i2l d_RB_converted_44 ?_
    refine gj_lmul d_RB_converted_45 ?_
    refine gj_aload_n d_RB_converted_46 rfl ?_
    refine gj_get d_RB_converted_47 gf_RB_49 o1 rfl ?_
    refine gj_get d_RB_converted_50 gf_RB_180 c0 rfl ?_
    refine gj_iload_n d_RB_converted_53 rfl ?_
    refine gj_iald d_RB_converted_54 c3 rfl (vp_in_nI (by omega) (by decide)) ?_
    refine gj_top (y := cd (p)) (congrArg cd (nI_clamp (by omega))) ?_
    refine gj_i2l d_RB_converted_55 ?_
    refine gj_callS (as := [.long (((ct : Int32).toInt64) * ((cu (p) : Int32).toInt64)), .long ((cd (p) : Int32).toInt64)]) (rest := []) (K1 := 0) (N1 := 0) d_RB_converted_56 mo_RB_dividedDown gw_416 gw_417 gw_20 pl_RB_dividedDown (Nat.le_of_ble_eq_true rfl) (Nat.le_of_ble_eq_true rfl) (Nat.zero_le _) (Nat.zero_le _) (c_RB_dividedDown (l64_ne0 (hdn p (by omega)))) (fun E n' C' _ h => by cases h) (fun v n' C' _ h => ?_)
    cases h
    refine gj_lret rfl (Nat.zero_le _) (Nat.zero_le _) d_RB_converted_59 ?_
    exact rfl
def pc_one (dv P : Nat → Int32) (i : Nat) : Int32 := if dv i = 0 then -1 else P i
def pc_ch (dv P : Nat → Int32) : Nat → Nat → Int32 → Int32 → Int32
  | 0, _, b, _ => b
  | m + 1, i, b, l => if ¬ pc_one dv P i = -1 ∧ (l = -1 ∨ pc_one dv P i < l) then pc_ch dv P m (i + 1) (nI i) (pc_one dv P i) else pc_ch dv P m (i + 1) b l
set_option maxHeartbeats 2000000 in
theorem c_RB_cheapest_loop {d K N n x q mk y li sp : Nat} {C : Nat → va_E} {sh : Nat → Option Nat} {dv P : Nat → Int32} (o1 : C (1) = .inr (0, [.ref (2), .ref (x), .ref (q), .ref (23), .int (nI mk), .ref (24), .ref (65), .ref (66)])) (hsh : C (23) = .inl (3, 20, .inr (.inr (.inr (.inr sh))))) (hx : C (x) = .inr (2, [.ref (x + 1), .ref (x + 2), .ref (x + 3), .ref (x + 4), .ref (x + 5), .ref (x + 6), .ref (x + 7), .ref (x + 8), .int (nI li), .int (nI sp)])) (hdv : C (x + 5) = .inl (0, 10, .inl dv)) (hP : ∀ j, j < 10 → ¬ dv j = 0 → gj_G md_RB_priceNow d 0 0 0 0 0 [(0, .ref 1), (1, .ref y), (2, .int (nI j))] [] n C (fun r => r = (gj_iv (P j), n, C))) {s : Int32} {Q : gj_R → Prop} : ∀ (m : Nat) (i : Nat) (b : Int32) (l : Int32), i + m = 10 → Q (gj_iv (pc_ch dv P m i b l), n, C) → gj_G md_RB_cheapest (d + 1) K N 0 0 14 [(0, .ref (1)), (1, .int (s)), (2, .ref (y)), (3, .int (b)), (4, .int (l)), (5, .int (nI i))] [] (n) C Q := by
  intro m
  induction m with
  | zero =>
    intro i b l hm hend
    refine gj_iload d_RB_cheapest_14 rfl ?_
    refine gj_kb (v := 10) d_RB_cheapest_16 (by decide) ?_
    refine gj_icmp_ge (tgt := 79) d_RB_cheapest_18 (by decide) (fun h18 => ?_) (fun h18 => by have m18 : ¬ (10 ≤ i) := fun q => h18 ((nI_leI (a := 10) (b := i) (by omega) (by omega)).mpr q); exact absurd (show 10 ≤ i from by omega) m18)
    have m18 : 10 ≤ i := (nI_leI (a := 10) (b := i) (by omega) (by omega)).mp h18
    refine gj_iload_n d_RB_cheapest_79 rfl ?_
    refine gj_iret rfl (Nat.zero_le _) (Nat.zero_le _) d_RB_cheapest_80 ?_
    exact hend
  | succ m ih =>
    intro i b l hm hend
    refine gj_iload d_RB_cheapest_14 rfl ?_
    refine gj_kb (v := 10) d_RB_cheapest_16 (by decide) ?_
    refine gj_icmp_ge (tgt := 79) d_RB_cheapest_18 (by decide) (fun h18 => by have m18 : 10 ≤ i := (nI_leI (a := 10) (b := i) (by omega) (by omega)).mp h18; exact absurd m18 (show ¬ (10 ≤ i) from by omega)) (fun h18 => ?_)
    have m18 : ¬ (10 ≤ i) := fun q => h18 ((nI_leI (a := 10) (b := i) (by omega) (by omega)).mpr q)
    refine gj_aload_n d_RB_cheapest_21 rfl ?_
    refine gj_get d_RB_cheapest_22 gf_RB_19 o1 rfl ?_
    refine gj_get d_RB_cheapest_25 gf_RB_100 hx rfl ?_
    refine gj_iload d_RB_cheapest_28 rfl ?_
    refine gj_iald d_RB_cheapest_30 hdv rfl (vp_in_nI (by omega) (by decide)) ?_
    refine gj_top (y := dv (i)) (congrArg dv (nI_clamp (by omega))) ?_
    refine gj_if_ne (tgt := 38) d_RB_cheapest_31 (by decide) (fun h31 => ?_) (fun h31 => ?_)
    · refine gj_aload_n d_RB_cheapest_38 rfl ?_
      refine gj_aload_n d_RB_cheapest_39 rfl ?_
      refine gj_iload d_RB_cheapest_40 rfl ?_
      refine gj_callV (as := [.ref (y), .int (nI i)]) (rest := []) (K1 := 0) (N1 := 0) d_RB_cheapest_42 mo_RB_priceNow gw_443 gw_445 gw_7 o1 rfl pl_RB_priceNow (Nat.le_of_ble_eq_true rfl) (Nat.le_of_ble_eq_true rfl) (Nat.zero_le _) (Nat.zero_le _) (hP i (by omega) h31) (fun E n' C' _ h => by cases h) (fun v n' C' _ h => ?_)
      cases h
      refine gj_istore d_RB_cheapest_45 (by decide) ?_
      refine gj_iload d_RB_cheapest_47 rfl ?_
      refine gj_kc (v := (-1)) d_RB_cheapest_49 (by decide) ?_
      refine gj_icmp_eq (tgt := 73) d_RB_cheapest_50 (by decide) (fun h50 => ?_) (fun h50 => ?_)
      · refine gj_iincN d_RB_cheapest_73 rfl (by decide) ?_
        refine gj_goto (tgt := 14) d_RB_cheapest_76 (by decide) ?_
        refine gj_less (lc' := [(0, .ref (1)), (1, .int (s)), (2, .ref (y)), (3, .int (b)), (4, .int (l)), (5, .int (nI (i + 1)))]) ⟨rfl, rfl, rfl, rfl, rfl, rfl, trivial⟩ ?_
        refine ih (i + 1) _ _ (by omega) ?_
        have e1 : pc_one dv P i = P i := if_neg h31
        have e : pc_ch dv P (m + 1) i b l = pc_ch dv P m (i + 1) b l := if_neg (by rw [e1]; exact fun z => by first | exact z.1 h50 | exact z.1 rfl | exact z.2.elim h56 (fun z => absurd h63 (Int32.not_le.mpr z)))
        rw [e] at hend; exact hend
      · refine gj_iload d_RB_cheapest_53 rfl ?_
        refine gj_kc (v := (-1)) d_RB_cheapest_55 (by decide) ?_
        refine gj_icmp_eq (tgt := 66) d_RB_cheapest_56 (by decide) (fun h56 => ?_) (fun h56 => ?_)
        · refine gj_iload d_RB_cheapest_66 rfl ?_
          refine gj_istore_n d_RB_cheapest_68 (by decide) ?_
          refine gj_iload d_RB_cheapest_69 rfl ?_
          refine gj_istore d_RB_cheapest_71 (by decide) ?_
          refine gj_iincN d_RB_cheapest_73 rfl (by decide) ?_
          refine gj_goto (tgt := 14) d_RB_cheapest_76 (by decide) ?_
          refine gj_less (lc' := [(0, .ref (1)), (1, .int (s)), (2, .ref (y)), (3, .int (nI i)), (4, .int (P i)), (5, .int (nI (i + 1)))]) ⟨rfl, rfl, rfl, rfl, rfl, rfl, trivial⟩ ?_
          refine ih (i + 1) _ _ (by omega) ?_
          have e1 : pc_one dv P i = P i := if_neg h31
          have e : pc_ch dv P (m + 1) i b l = pc_ch dv P m (i + 1) (nI i) (pc_one dv P i) := if_pos (by rw [e1]; exact ⟨h50, by first | exact Or.inl h56 | exact Or.inr (Int32.not_le.mp h63)⟩)
          rw [e, e1] at hend; exact hend
        · refine gj_iload d_RB_cheapest_59 rfl ?_
          refine gj_iload d_RB_cheapest_61 rfl ?_
          refine gj_icmp_ge (tgt := 73) d_RB_cheapest_63 (by decide) (fun h63 => ?_) (fun h63 => ?_)
          · refine gj_iincN d_RB_cheapest_73 rfl (by decide) ?_
            refine gj_goto (tgt := 14) d_RB_cheapest_76 (by decide) ?_
            refine gj_less (lc' := [(0, .ref (1)), (1, .int (s)), (2, .ref (y)), (3, .int (b)), (4, .int (l)), (5, .int (nI (i + 1)))]) ⟨rfl, rfl, rfl, rfl, rfl, rfl, trivial⟩ ?_
            refine ih (i + 1) _ _ (by omega) ?_
            have e1 : pc_one dv P i = P i := if_neg h31
            have e : pc_ch dv P (m + 1) i b l = pc_ch dv P m (i + 1) b l := if_neg (by rw [e1]; exact fun z => by first | exact z.1 h50 | exact z.1 rfl | exact z.2.elim h56 (fun z => absurd h63 (Int32.not_le.mpr z)))
            rw [e] at hend; exact hend
          · refine gj_iload d_RB_cheapest_66 rfl ?_
            refine gj_istore_n d_RB_cheapest_68 (by decide) ?_
            refine gj_iload d_RB_cheapest_69 rfl ?_
            refine gj_istore d_RB_cheapest_71 (by decide) ?_
            refine gj_iincN d_RB_cheapest_73 rfl (by decide) ?_
            refine gj_goto (tgt := 14) d_RB_cheapest_76 (by decide) ?_
            refine gj_less (lc' := [(0, .ref (1)), (1, .int (s)), (2, .ref (y)), (3, .int (nI i)), (4, .int (P i)), (5, .int (nI (i + 1)))]) ⟨rfl, rfl, rfl, rfl, rfl, rfl, trivial⟩ ?_
            refine ih (i + 1) _ _ (by omega) ?_
            have e1 : pc_one dv P i = P i := if_neg h31
            have e : pc_ch dv P (m + 1) i b l = pc_ch dv P m (i + 1) (nI i) (pc_one dv P i) := if_pos (by rw [e1]; exact ⟨h50, by first | exact Or.inl h56 | exact Or.inr (Int32.not_le.mp h63)⟩)
            rw [e, e1] at hend; exact hend
    · refine gj_kc (v := (-1)) d_RB_cheapest_34 (by decide) ?_
      refine gj_goto (tgt := 45) d_RB_cheapest_35 (by decide) ?_
      refine gj_istore d_RB_cheapest_45 (by decide) ?_
      refine gj_iload d_RB_cheapest_47 rfl ?_
      refine gj_kc (v := (-1)) d_RB_cheapest_49 (by decide) ?_
      refine gj_icmp_eq (tgt := 73) d_RB_cheapest_50 (by decide) (fun h50 => ?_) (fun h50 => ?_)
      · refine gj_iincN d_RB_cheapest_73 rfl (by decide) ?_
        refine gj_goto (tgt := 14) d_RB_cheapest_76 (by decide) ?_
        refine gj_less (lc' := [(0, .ref (1)), (1, .int (s)), (2, .ref (y)), (3, .int (b)), (4, .int (l)), (5, .int (nI (i + 1)))]) ⟨rfl, rfl, rfl, rfl, rfl, rfl, trivial⟩ ?_
        refine ih (i + 1) _ _ (by omega) ?_
        have e1 : pc_one dv P i = -1 := if_pos h31
        have e : pc_ch dv P (m + 1) i b l = pc_ch dv P m (i + 1) b l := if_neg (by rw [e1]; exact fun z => by first | exact z.1 h50 | exact z.1 rfl | exact z.2.elim h56 (fun z => absurd h63 (Int32.not_le.mpr z)))
        rw [e] at hend; exact hend
      · refine gj_iload d_RB_cheapest_53 rfl ?_
        refine gj_kc (v := (-1)) d_RB_cheapest_55 (by decide) ?_
        refine gj_icmp_eq (tgt := 66) d_RB_cheapest_56 (by decide) (fun h56 => ?_) (fun h56 => ?_)
        · refine gj_iload d_RB_cheapest_66 rfl ?_
          refine gj_istore_n d_RB_cheapest_68 (by decide) ?_
          refine gj_iload d_RB_cheapest_69 rfl ?_
          refine gj_istore d_RB_cheapest_71 (by decide) ?_
          refine gj_iincN d_RB_cheapest_73 rfl (by decide) ?_
          refine gj_goto (tgt := 14) d_RB_cheapest_76 (by decide) ?_
          refine gj_less (lc' := [(0, .ref (1)), (1, .int (s)), (2, .ref (y)), (3, .int (nI i)), (4, .int (-1)), (5, .int (nI (i + 1)))]) ⟨rfl, rfl, rfl, rfl, rfl, rfl, trivial⟩ ?_
          refine ih (i + 1) _ _ (by omega) ?_
          have e1 : pc_one dv P i = -1 := if_pos h31
          have e : pc_ch dv P (m + 1) i b l = pc_ch dv P m (i + 1) (nI i) (pc_one dv P i) := if_pos (by rw [e1]; exact ⟨h50, by first | exact Or.inl h56 | exact Or.inr (Int32.not_le.mp h63)⟩)
          rw [e, e1] at hend; exact hend
        · refine gj_iload d_RB_cheapest_59 rfl ?_
          refine gj_iload d_RB_cheapest_61 rfl ?_
          refine gj_icmp_ge (tgt := 73) d_RB_cheapest_63 (by decide) (fun h63 => ?_) (fun h63 => ?_)
          · refine gj_iincN d_RB_cheapest_73 rfl (by decide) ?_
            refine gj_goto (tgt := 14) d_RB_cheapest_76 (by decide) ?_
            refine gj_less (lc' := [(0, .ref (1)), (1, .int (s)), (2, .ref (y)), (3, .int (b)), (4, .int (l)), (5, .int (nI (i + 1)))]) ⟨rfl, rfl, rfl, rfl, rfl, rfl, trivial⟩ ?_
            refine ih (i + 1) _ _ (by omega) ?_
            have e1 : pc_one dv P i = -1 := if_pos h31
            have e : pc_ch dv P (m + 1) i b l = pc_ch dv P m (i + 1) b l := if_neg (by rw [e1]; exact fun z => by first | exact z.1 h50 | exact z.1 rfl | exact z.2.elim h56 (fun z => absurd h63 (Int32.not_le.mpr z)))
            rw [e] at hend; exact hend
          · refine gj_iload d_RB_cheapest_66 rfl ?_
            refine gj_istore_n d_RB_cheapest_68 (by decide) ?_
            refine gj_iload d_RB_cheapest_69 rfl ?_
            refine gj_istore d_RB_cheapest_71 (by decide) ?_
            refine gj_iincN d_RB_cheapest_73 rfl (by decide) ?_
            refine gj_goto (tgt := 14) d_RB_cheapest_76 (by decide) ?_
            refine gj_less (lc' := [(0, .ref (1)), (1, .int (s)), (2, .ref (y)), (3, .int (nI i)), (4, .int (-1)), (5, .int (nI (i + 1)))]) ⟨rfl, rfl, rfl, rfl, rfl, rfl, trivial⟩ ?_
            refine ih (i + 1) _ _ (by omega) ?_
            have e1 : pc_one dv P i = -1 := if_pos h31
            have e : pc_ch dv P (m + 1) i b l = pc_ch dv P m (i + 1) (nI i) (pc_one dv P i) := if_pos (by rw [e1]; exact ⟨h50, by first | exact Or.inl h56 | exact Or.inr (Int32.not_le.mp h63)⟩)
            rw [e, e1] at hend; exact hend
set_option maxHeartbeats 2000000 in
theorem c_RB_cheapest {d K N n x q mk y li sp : Nat} {C : Nat → va_E} {sh : Nat → Option Nat} {dv P : Nat → Int32} (o1 : C (1) = .inr (0, [.ref (2), .ref (x), .ref (q), .ref (23), .int (nI mk), .ref (24), .ref (65), .ref (66)])) (hsh : C (23) = .inl (3, 20, .inr (.inr (.inr (.inr sh))))) (hx : C (x) = .inr (2, [.ref (x + 1), .ref (x + 2), .ref (x + 3), .ref (x + 4), .ref (x + 5), .ref (x + 6), .ref (x + 7), .ref (x + 8), .int (nI li), .int (nI sp)])) (hdv : C (x + 5) = .inl (0, 10, .inl dv)) (hP : ∀ j, j < 10 → ¬ dv j = 0 → gj_G md_RB_priceNow d 0 0 0 0 0 [(0, .ref 1), (1, .ref y), (2, .int (nI j))] [] n C (fun r => r = (gj_iv (P j), n, C))) {s : Int32} (hp : pr_pn sh s = some y) : gj_G md_RB_cheapest (d + 1) K N 0 0 0 [(0, .ref (1)), (1, .int (s))] [] (n) C (fun r => r = (gj_iv (pc_ch dv P 10 0 (-1) (-1)), n, C)) := by
  refine gj_aload_n d_RB_cheapest_0 rfl ?_
  refine gj_iload_n d_RB_cheapest_1 rfl ?_
  refine gj_callV (as := [.int (s)]) (rest := []) (K1 := 0) (N1 := 0) d_RB_cheapest_2 mo_RB_present gw_385 gw_387 gw_6 o1 rfl pl_RB_present (Nat.le_of_ble_eq_true rfl) (Nat.le_of_ble_eq_true rfl) (Nat.zero_le _) (Nat.zero_le _) (c_RB_present o1 hsh hp) (fun E n' C' _ h => by cases h) (fun v n' C' _ h => ?_)
  cases h
  refine gj_astore_n d_RB_cheapest_5 (by decide) ?_
  refine gj_kc (v := (-1)) d_RB_cheapest_6 (by decide) ?_
  refine gj_istore_n d_RB_cheapest_7 (by decide) ?_
  refine gj_kc (v := (-1)) d_RB_cheapest_8 (by decide) ?_
  refine gj_istore d_RB_cheapest_9 (by decide) ?_
  refine gj_kc (v := 0) d_RB_cheapest_11 (by decide) ?_
  refine gj_istore d_RB_cheapest_12 (by decide) ?_
  refine gj_less (lc' := [(0, .ref (1)), (1, .int (s)), (2, .ref (y)), (3, .int (-1)), (4, .int (-1)), (5, .int (nI 0))]) ⟨rfl, rfl, rfl, rfl, rfl, rfl, trivial⟩ ?_
  exact c_RB_cheapest_loop o1 hsh hx hdv hP 10 0 (-1) (-1) (by omega) rfl
def pc_dc (sh : Nat → Option Nat) (ce le : Nat → Int32) (j : Nat) : Prop := ¬ sh j = none ∧ ¬ le j = -1 ∧ ¬ le j = ce j
noncomputable def pc_df (sh : Nat → Option Nat) (ce le : Nat → Int32) (i : Int32) : Nat → Nat → Nat → Int32
  | 0, _, _ => -1
  | m + 1, j, b => @ite _ (pc_dc sh ce le j) (Classical.propDecidable _) (if nI b = i then nI j else pc_df sh ce le i m (j + 1) (b + 1)) (pc_df sh ce le i m (j + 1) b)
noncomputable def pc_ct (sh : Nat → Option Nat) (se ce le : Nat → Int32) (w : Int32) : Nat → Nat → Int32 → Int32
  | 0, _, t => t
  | m + 1, j, t => pc_ct sh se ce le w m (j + 1) (@ite _ (sh j = none) (Classical.propDecidable _) t (t + pr_ad (se j) (ce j) (le j) w))
set_option maxHeartbeats 2000000 in
theorem c_RB_differ_loop {d K N n x q mk : Nat} {C : Nat → va_E} {sh : Nat → Option Nat} {zo gr vo se ce le : Nat → Int32} (o1 : C (1) = .inr (0, [.ref (2), .ref (x), .ref (q), .ref (23), .int (nI mk), .ref (24), .ref (65), .ref (66)])) (hsh : C (23) = .inl (3, 20, .inr (.inr (.inr (.inr sh))))) (hS : ∀ j y, sh j = some y → C y = .inr (4, [.int (zo j), .int (gr j), .int (vo j), .int (se j), .int (ce j), .int (le j)])) {i : Int32} {Q : gj_R → Prop} : ∀ (m : Nat) (j : Nat) (b : Nat), j + m = 20 → b ≤ j → Q (gj_iv (pc_df sh ce le i m j b), n, C) → gj_G md_RB_differ (d + 1) K N 0 0 18 [(0, .ref (1)), (1, .int (i)), (2, .int (nI b)), (3, .int (nI j))] [] (n) C Q := by
  intro m
  induction m with
  | zero =>
    intro j b hm hb hend
    refine gj_iload_n d_RB_differ_18 rfl ?_
    refine gj_kb (v := 20) d_RB_differ_19 (by decide) ?_
    refine gj_icmp_ge (tgt := 74) d_RB_differ_21 (by decide) (fun h21 => ?_) (fun h21 => by have m21 : ¬ (20 ≤ j) := fun q => h21 ((nI_leI (a := 20) (b := j) (by omega) (by omega)).mpr q); exact absurd (show 20 ≤ j from by omega) m21)
    have m21 : 20 ≤ j := (nI_leI (a := 20) (b := j) (by omega) (by omega)).mp h21
    refine gj_kc (v := (-1)) d_RB_differ_74 (by decide) ?_
    refine gj_iret rfl (Nat.zero_le _) (Nat.zero_le _) d_RB_differ_75 ?_
    exact hend
  | succ m ih =>
    intro j b hm hb hend
    refine gj_iload_n d_RB_differ_18 rfl ?_
    refine gj_kb (v := 20) d_RB_differ_19 (by decide) ?_
    refine gj_icmp_ge (tgt := 74) d_RB_differ_21 (by decide) (fun h21 => by have m21 : 20 ≤ j := (nI_leI (a := 20) (b := j) (by omega) (by omega)).mp h21; exact absurd m21 (show ¬ (20 ≤ j) from by omega)) (fun h21 => ?_)
    have m21 : ¬ (20 ≤ j) := fun q => h21 ((nI_leI (a := 20) (b := j) (by omega) (by omega)).mpr q)
    refine gj_aload_n d_RB_differ_24 rfl ?_
    refine gj_get d_RB_differ_25 gf_RB_28 o1 rfl ?_
    refine gj_iload_n d_RB_differ_28 rfl ?_
    refine gj_aald d_RB_differ_29 hsh rfl (vp_in_nI (by omega) (by decide)) ?_
    rw [nI_clamp (by omega)]
    rcases hs : sh j with _ | y
    · refine gj_topv (v := .null) rfl ?_
      refine gj_astoreN d_RB_differ_30 (by decide) ?_
      refine gj_aloadN d_RB_differ_32 rfl ?_
      refine gj_ifnullN (tgt := 68) d_RB_differ_34 (by decide) ?_
      refine gj_iincN d_RB_differ_68 rfl (by decide) ?_
      refine gj_goto (tgt := 18) d_RB_differ_71 (by decide) ?_
      refine gj_less (lc' := [(0, .ref (1)), (1, .int (i)), (2, .int (nI b)), (3, .int (nI (j + 1)))]) ⟨rfl, rfl, rfl, rfl, trivial⟩ ?_
      refine ih (j + 1) b (by omega) (by omega) ?_
      have e : pc_df sh ce le i (m + 1) j b = pc_df sh ce le i m (j + 1) b := if_neg (fun q => q.1 hs)
      rw [e] at hend; exact hend
    · have hy := hS j y hs
      refine gj_topv (v := .ref y) rfl ?_
      refine gj_astore d_RB_differ_30 (by decide) ?_
      refine gj_aload d_RB_differ_32 rfl ?_
      refine gj_ifnull d_RB_differ_34 ?_
      refine gj_aload d_RB_differ_37 rfl ?_
      refine gj_callV (as := []) (rest := []) (K1 := 0) (N1 := 0) d_RB_differ_39 mo_Sh_isInvoiced gw_228 gw_229 gw_230 hy rfl pl_Sh_isInvoiced (Nat.le_of_ble_eq_true rfl) (Nat.le_of_ble_eq_true rfl) (Nat.zero_le _) (Nat.zero_le _) (c_Sh_isInvoiced hy) (fun E n' C' _ h => by cases h) (fun v n' C' _ h => ?_)
      cases h
      refine gj_if_eq (tgt := 68) d_RB_differ_42 (by decide) (fun h42 => ?_) (fun h42 => ?_)
      · refine gj_iincN d_RB_differ_68 rfl (by decide) ?_
        refine gj_goto (tgt := 18) d_RB_differ_71 (by decide) ?_
        refine gj_less (lc' := [(0, .ref (1)), (1, .int (i)), (2, .int (nI b)), (3, .int (nI (j + 1)))]) ⟨rfl, rfl, rfl, rfl, trivial⟩ ?_
        refine ih (j + 1) b (by omega) (by omega) ?_
        have e : pc_df sh ce le i (m + 1) j b = pc_df sh ce le i m (j + 1) b := if_neg (fun q => by first | exact q.2.1 ((pc_b0 _).mp h42) | exact q.2.2 h55)
        rw [e] at hend; exact hend
      · refine gj_aload d_RB_differ_45 rfl ?_
        refine gj_get d_RB_differ_47 gf_RB_161 hy rfl ?_
        refine gj_aload d_RB_differ_50 rfl ?_
        refine gj_get d_RB_differ_52 gf_RB_141 hy rfl ?_
        refine gj_icmp_eq (tgt := 68) d_RB_differ_55 (by decide) (fun h55 => ?_) (fun h55 => ?_)
        · refine gj_iincN d_RB_differ_68 rfl (by decide) ?_
          refine gj_goto (tgt := 18) d_RB_differ_71 (by decide) ?_
          refine gj_less (lc' := [(0, .ref (1)), (1, .int (i)), (2, .int (nI b)), (3, .int (nI (j + 1)))]) ⟨rfl, rfl, rfl, rfl, trivial⟩ ?_
          refine ih (j + 1) b (by omega) (by omega) ?_
          have e : pc_df sh ce le i (m + 1) j b = pc_df sh ce le i m (j + 1) b := if_neg (fun q => by first | exact q.2.1 ((pc_b0 _).mp h42) | exact q.2.2 h55)
          rw [e] at hend; exact hend
        · refine gj_iload_n d_RB_differ_58 rfl ?_
          refine gj_iload_n d_RB_differ_59 rfl ?_
          refine gj_icmp_ne (tgt := 65) d_RB_differ_60 (by decide) (fun h60 => ?_) (fun h60 => ?_)
          · refine gj_iincN d_RB_differ_65 rfl (by decide) ?_
            refine gj_iincN d_RB_differ_68 rfl (by decide) ?_
            refine gj_goto (tgt := 18) d_RB_differ_71 (by decide) ?_
            refine gj_less (lc' := [(0, .ref (1)), (1, .int (i)), (2, .int (nI (b + 1))), (3, .int (nI (j + 1)))]) ⟨rfl, rfl, rfl, rfl, trivial⟩ ?_
            refine ih (j + 1) (b + 1) (by omega) (by omega) ?_
            have e : pc_df sh ce le i (m + 1) j b = pc_df sh ce le i m (j + 1) (b + 1) := (if_pos ⟨by rw [hs]; exact (fun q => (nomatch q)), fun q => h42 ((pc_b0 _).mpr q), h55⟩).trans (if_neg h60)
            rw [e] at hend; exact hend
          · refine gj_iload_n d_RB_differ_63 rfl ?_
            refine gj_iret rfl (Nat.zero_le _) (Nat.zero_le _) d_RB_differ_64 ?_
            have e : pc_df sh ce le i (m + 1) j b = nI j := (if_pos ⟨by rw [hs]; exact (fun q => (nomatch q)), fun q => h42 ((pc_b0 _).mpr q), h55⟩).trans (if_pos h60)
            rw [e] at hend; exact hend
set_option maxHeartbeats 2000000 in
theorem c_RB_differ {d K N n x q mk : Nat} {C : Nat → va_E} {sh : Nat → Option Nat} {zo gr vo se ce le : Nat → Int32} (o1 : C (1) = .inr (0, [.ref (2), .ref (x), .ref (q), .ref (23), .int (nI mk), .ref (24), .ref (65), .ref (66)])) (hsh : C (23) = .inl (3, 20, .inr (.inr (.inr (.inr sh))))) (hS : ∀ j y, sh j = some y → C y = .inr (4, [.int (zo j), .int (gr j), .int (vo j), .int (se j), .int (ce j), .int (le j)])) {i : Int32} (hi : 0 ≤ i) : gj_G md_RB_differ (d + 1) K N 0 0 0 [(0, .ref (1)), (1, .int (i))] [] (n) C (fun r => r = (gj_iv (pc_df sh ce le i 20 0 0), n, C)) := by
  refine gj_iload_n d_RB_differ_0 rfl ?_
  refine gj_if_ge (tgt := 14) d_RB_differ_1 (by decide) (fun h1 => ?_) (fun h1 => absurd (hi) h1)
  refine gj_kc (v := 0) d_RB_differ_14 (by decide) ?_
  refine gj_istore_n d_RB_differ_15 (by decide) ?_
  refine gj_kc (v := 0) d_RB_differ_16 (by decide) ?_
  refine gj_istore_n d_RB_differ_17 (by decide) ?_
  refine gj_less (lc' := [(0, .ref (1)), (1, .int (i)), (2, .int (nI 0)), (3, .int (nI 0))]) ⟨rfl, rfl, rfl, rfl, trivial⟩ ?_
  exact c_RB_differ_loop o1 hsh hS 20 0 0 (by omega) (by omega) rfl
set_option maxHeartbeats 2000000 in
theorem c_RB_count_loop {d K N n x q mk : Nat} {C : Nat → va_E} {sh : Nat → Option Nat} {zo gr vo se ce le : Nat → Int32} (o1 : C (1) = .inr (0, [.ref (2), .ref (x), .ref (q), .ref (23), .int (nI mk), .ref (24), .ref (65), .ref (66)])) (hsh : C (23) = .inl (3, 20, .inr (.inr (.inr (.inr sh))))) (hS : ∀ j y, sh j = some y → C y = .inr (4, [.int (zo j), .int (gr j), .int (vo j), .int (se j), .int (ce j), .int (le j)])) {w : Int32} {Q : gj_R → Prop} : ∀ (m : Nat) (j : Nat) (t : Int32), j + m = 20 → Q (gj_iv (pc_ct sh se ce le w m j t), n, C) → gj_G md_RB_count (d + 2) K N 0 0 41 [(0, .ref (1)), (1, .int (w)), (2, .int (t)), (3, .int (nI j))] [] (n) C Q := by
  intro m
  induction m with
  | zero =>
    intro j t hm hend
    refine gj_iload_n d_RB_count_41 rfl ?_
    refine gj_kb (v := 20) d_RB_count_42 (by decide) ?_
    refine gj_icmp_ge (tgt := 75) d_RB_count_44 (by decide) (fun h44 => ?_) (fun h44 => by have m44 : ¬ (20 ≤ j) := fun q => h44 ((nI_leI (a := 20) (b := j) (by omega) (by omega)).mpr q); exact absurd (show 20 ≤ j from by omega) m44)
    have m44 : 20 ≤ j := (nI_leI (a := 20) (b := j) (by omega) (by omega)).mp h44
    refine gj_iload_n d_RB_count_75 rfl ?_
    refine gj_iret rfl (Nat.zero_le _) (Nat.zero_le _) d_RB_count_76 ?_
    exact hend
  | succ m ih =>
    intro j t hm hend
    refine gj_iload_n d_RB_count_41 rfl ?_
    refine gj_kb (v := 20) d_RB_count_42 (by decide) ?_
    refine gj_icmp_ge (tgt := 75) d_RB_count_44 (by decide) (fun h44 => by have m44 : 20 ≤ j := (nI_leI (a := 20) (b := j) (by omega) (by omega)).mp h44; exact absurd m44 (show ¬ (20 ≤ j) from by omega)) (fun h44 => ?_)
    have m44 : ¬ (20 ≤ j) := fun q => h44 ((nI_leI (a := 20) (b := j) (by omega) (by omega)).mpr q)
    refine gj_aload_n d_RB_count_47 rfl ?_
    refine gj_get d_RB_count_48 gf_RB_28 o1 rfl ?_
    refine gj_iload_n d_RB_count_51 rfl ?_
    refine gj_aald d_RB_count_52 hsh rfl (vp_in_nI (by omega) (by decide)) ?_
    rw [nI_clamp (by omega)]
    rcases hs : sh j with _ | y
    · refine gj_topv (v := .null) rfl ?_
      refine gj_astoreN d_RB_count_53 (by decide) ?_
      refine gj_aloadN d_RB_count_55 rfl ?_
      refine gj_ifnullN (tgt := 69) d_RB_count_57 (by decide) ?_
      refine gj_iincN d_RB_count_69 rfl (by decide) ?_
      refine gj_goto (tgt := 41) d_RB_count_72 (by decide) ?_
      refine gj_less (lc' := [(0, .ref (1)), (1, .int (w)), (2, .int (t)), (3, .int (nI (j + 1)))]) ⟨rfl, rfl, rfl, rfl, trivial⟩ ?_
      refine ih (j + 1) (t) (by omega) ?_
      have e : (@ite _ (sh j = none) (Classical.propDecidable _) t (t + pr_ad (se j) (ce j) (le j) w)) = t := if_pos hs
      rw [← e]; exact hend
    · have hy := hS j y hs
      refine gj_topv (v := .ref y) rfl ?_
      refine gj_astore d_RB_count_53 (by decide) ?_
      refine gj_aload d_RB_count_55 rfl ?_
      refine gj_ifnull d_RB_count_57 ?_
      refine gj_iload_n d_RB_count_60 rfl ?_
      refine gj_aload d_RB_count_61 rfl ?_
      refine gj_iload_n d_RB_count_63 rfl ?_
      refine gj_callS (as := [.ref (y), .int (w)]) (rest := [.int (t)]) (K1 := 0) (N1 := 0) d_RB_count_64 mo_RB_addend gw_221 gw_222 gw_20 pl_RB_addend (Nat.le_of_ble_eq_true rfl) (Nat.le_of_ble_eq_true rfl) (Nat.zero_le _) (Nat.zero_le _) (c_RB_addend hy) (fun E n' C' _ h => by cases h) (fun v n' C' _ h => ?_)
      cases h
      refine gj_iadd d_RB_count_67 ?_
      refine gj_istore_n d_RB_count_68 (by decide) ?_
      refine gj_iincN d_RB_count_69 rfl (by decide) ?_
      refine gj_goto (tgt := 41) d_RB_count_72 (by decide) ?_
      refine gj_less (lc' := [(0, .ref (1)), (1, .int (w)), (2, .int ((t) + (pr_ad (se j) (ce j) (le j) w))), (3, .int (nI (j + 1)))]) ⟨rfl, rfl, rfl, rfl, trivial⟩ ?_
      refine ih (j + 1) ((t) + (pr_ad (se j) (ce j) (le j) w)) (by omega) ?_
      have e : (@ite _ (sh j = none) (Classical.propDecidable _) t (t + pr_ad (se j) (ce j) (le j) w)) = (t) + (pr_ad (se j) (ce j) (le j) w) := if_neg (by rw [hs]; exact (fun q => (nomatch q)))
      rw [← e]; exact hend
noncomputable def pc_cn (ln li : Nat) (sh : Nat → Option Nat) (se ce le : Nat → Int32) (w : Int32) : Int32 := if w = 0 then nI ln else if w = 1 then nI li else if w < 2 ∨ 5 < w then -1 else pc_ct sh se ce le w 20 0 0
set_option maxHeartbeats 2000000 in
theorem c_RB_count {d K N n x q mk ln li sp : Nat} {pp : Int32} {C : Nat → va_E} {sh : Nat → Option Nat} {zo gr vo se ce le : Nat → Int32} (o1 : C (1) = .inr (0, [.ref (2), .ref (x), .ref (q), .ref (23), .int (nI mk), .ref (24), .ref (65), .ref (66)])) (hsh : C (23) = .inl (3, 20, .inr (.inr (.inr (.inr sh))))) (hS : ∀ j y, sh j = some y → C y = .inr (4, [.int (zo j), .int (gr j), .int (vo j), .int (se j), .int (ce j), .int (le j)])) (o2 : C (2) = .inr (1, [.ref (3), .ref (4), .int (nI ln), .int (pp)])) (hx : C (x) = .inr (2, [.ref (x + 1), .ref (x + 2), .ref (x + 3), .ref (x + 4), .ref (x + 5), .ref (x + 6), .ref (x + 7), .ref (x + 8), .int (nI li), .int (nI sp)])) {w : Int32} : gj_G md_RB_count (d + 2) K N 0 0 0 [(0, .ref (1)), (1, .int (w))] [] (n) C (fun r => r = (gj_iv (pc_cn ln li sh se ce le w), n, C)) := by
  refine gj_iload_n d_RB_count_0 rfl ?_
  refine gj_if_ne (tgt := 12) d_RB_count_1 (by decide) (fun h1 => ?_) (fun h1 => ?_)
  · refine gj_iload_n d_RB_count_12 rfl ?_
    refine gj_kc (v := 1) d_RB_count_13 (by decide) ?_
    refine gj_icmp_ne (tgt := 25) d_RB_count_14 (by decide) (fun h14 => ?_) (fun h14 => ?_)
    · refine gj_iload_n d_RB_count_25 rfl ?_
      refine gj_kc (v := 2) d_RB_count_26 (by decide) ?_
      refine gj_icmp_lt (tgt := 35) d_RB_count_27 (by decide) (fun h27 => ?_) (fun h27 => ?_)
      · refine gj_kc (v := (-1)) d_RB_count_35 (by decide) ?_
        refine gj_iret rfl (Nat.zero_le _) (Nat.zero_le _) d_RB_count_36 ?_
        exact gj_ei ((if_neg h1).trans ((if_neg h14).trans (if_pos (by first | exact Or.inl h27 | exact Or.inr (Int32.not_le.mp h32))))).symm
      · refine gj_iload_n d_RB_count_30 rfl ?_
        refine gj_kc (v := 5) d_RB_count_31 (by decide) ?_
        refine gj_icmp_le (tgt := 37) d_RB_count_32 (by decide) (fun h32 => ?_) (fun h32 => ?_)
        · refine gj_kc (v := 0) d_RB_count_37 (by decide) ?_
          refine gj_istore_n d_RB_count_38 (by decide) ?_
          refine gj_kc (v := 0) d_RB_count_39 (by decide) ?_
          refine gj_istore_n d_RB_count_40 (by decide) ?_
          refine gj_less (lc' := [(0, .ref (1)), (1, .int (w)), (2, .int (0)), (3, .int (nI 0))]) ⟨rfl, rfl, rfl, rfl, trivial⟩ ?_
          refine c_RB_count_loop o1 hsh hS 20 0 0 (by omega) ?_
          have e : pc_cn ln li sh se ce le w = pc_ct sh se ce le w 20 0 0 := (if_neg h1).trans ((if_neg h14).trans (if_neg (fun q => q.elim h27 (fun z => absurd h32 (Int32.not_le.mpr z)))))
          rw [e]
        · refine gj_kc (v := (-1)) d_RB_count_35 (by decide) ?_
          refine gj_iret rfl (Nat.zero_le _) (Nat.zero_le _) d_RB_count_36 ?_
          exact gj_ei ((if_neg h1).trans ((if_neg h14).trans (if_pos (by first | exact Or.inl h27 | exact Or.inr (Int32.not_le.mp h32))))).symm
    · refine gj_aload_n d_RB_count_17 rfl ?_
      refine gj_get d_RB_count_18 gf_RB_19 o1 rfl ?_
      refine gj_get d_RB_count_21 gf_RB_77 hx rfl ?_
      refine gj_iret rfl (Nat.zero_le _) (Nat.zero_le _) d_RB_count_24 ?_
      exact gj_ei ((if_neg h1).trans (if_pos h14)).symm
  · refine gj_aload_n d_RB_count_4 rfl ?_
    refine gj_get d_RB_count_5 gf_RB_10 o1 rfl ?_
    refine gj_get d_RB_count_8 gf_RB_57 o2 rfl ?_
    refine gj_iret rfl (Nat.zero_le _) (Nat.zero_le _) d_RB_count_11 ?_
    exact gj_ei (if_pos h1).symm
