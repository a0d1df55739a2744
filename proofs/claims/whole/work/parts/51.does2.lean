/-! the public methods of RateBreaks: what they do, second part -/
theorem pc_b0 (s : Int32) : (if s = -1 then (0 : Int32) else 1) = 0 ↔ s = -1 := by
  by_cases h : s = -1
  · rw [if_pos h]; exact ⟨fun _ => h, fun _ => rfl⟩
  · rw [if_neg h]; exact ⟨fun q => absurd q (by decide), fun q => absurd q h⟩
theorem pc_svc {j : Nat} (h : j < 10) : 0 ≤ nI j ∧ nI j < 10 := ⟨nI_pos' (by omega), (nI_ltI (b := 10) (by omega) (by decide)).mpr h⟩
set_option maxHeartbeats 2000000 in
theorem c_RB_weight {d K N n x q mk y : Nat} {C : Nat → va_E} {sh : Nat → Option Nat} {zo gr vo se ce le : Int32} {li sp : Nat} {dv : Nat → Int32} (o1 : C (1) = .inr (0, [.ref (2), .ref (x), .ref (q), .ref (23), .int (nI mk), .ref (24), .ref (65), .ref (66)])) (hsh : C (23) = .inl (3, 20, .inr (.inr (.inr (.inr sh))))) (hy : C (y) = .inr (4, [.int (zo), .int (gr), .int (vo), .int (se), .int (ce), .int (le)])) (hx : C (x) = .inr (2, [.ref (x + 1), .ref (x + 2), .ref (x + 3), .ref (x + 4), .ref (x + 5), .ref (x + 6), .ref (x + 7), .ref (x + 8), .int (nI li), .int (nI sp)])) (hdv : C (x + 5) = .inl (0, 10, .inl dv)) {s : Int32} {j : Nat} (hp : pr_pn sh s = some y) (hj : j < 10) (h0 : ¬ dv j = 0) : gj_G md_RB_weight (d + 3) K N 0 0 0 [(0, .ref (1)), (1, .int (s)), (2, .int (nI j))] [] (n) C (fun r => r = (gj_iv (pr_w (dv j) gr vo), n, C)) := by
  refine gj_aload_n d_RB_weight_0 rfl ?_
  refine gj_iload_n d_RB_weight_1 rfl ?_
  refine gj_callV (as := [.int (s)]) (rest := []) (K1 := 0) (N1 := 0) d_RB_weight_2 mo_RB_present gw_385 gw_387 gw_6 o1 rfl pl_RB_present (Nat.le_of_ble_eq_true rfl) (Nat.le_of_ble_eq_true rfl) (Nat.zero_le _) (Nat.zero_le _) (c_RB_present o1 hsh hp) (fun E n' C' _ h => by cases h) (fun v n' C' _ h => ?_)
  cases h
  refine gj_astore_n d_RB_weight_5 (by decide) ?_
  refine gj_iload_n d_RB_weight_6 rfl ?_
  refine gj_callS (as := [.int (nI j)]) (rest := []) (K1 := 0) (N1 := 0) d_RB_weight_7 mo_RB_needService gw_405 gw_406 gw_20 pl_RB_needService (Nat.le_of_ble_eq_true rfl) (Nat.le_of_ble_eq_true rfl) (Nat.zero_le _) (Nat.zero_le _) (c_RB_needService (pc_svc hj).1 (pc_svc hj).2) (fun E n' C' _ h => by cases h) (fun v n' C' _ h => ?_)
  cases h
  refine gj_aload_n d_RB_weight_10 rfl ?_
  refine gj_get d_RB_weight_11 gf_RB_19 o1 rfl ?_
  refine gj_aload_n d_RB_weight_14 rfl ?_
  refine gj_iload_n d_RB_weight_15 rfl ?_
  refine gj_callV (as := [.ref (y), .int (nI j)]) (rest := []) (K1 := 0) (N1 := 0) d_RB_weight_16 mo_Ra_weightToPay gw_409 gw_410 gw_411 hx rfl pl_Ra_weightToPay (Nat.le_of_ble_eq_true rfl) (Nat.le_of_ble_eq_true rfl) (Nat.zero_le _) (Nat.zero_le _) (c_Ra_weightToPay hx hdv hy hj h0) (fun E n' C' _ h => by cases h) (fun v n' C' _ h => ?_)
  cases h
  refine gj_iret rfl (Nat.zero_le _) (Nat.zero_le _) d_RB_weight_19 ?_
  exact rfl
set_option maxHeartbeats 2000000 in
theorem c_RB_weight_x3 {d K N n x q mk y : Nat} {C : Nat → va_E} {sh : Nat → Option Nat} {zo gr vo se ce le : Int32} {li sp : Nat} {dv : Nat → Int32} (o1 : C (1) = .inr (0, [.ref (2), .ref (x), .ref (q), .ref (23), .int (nI mk), .ref (24), .ref (65), .ref (66)])) (hsh : C (23) = .inl (3, 20, .inr (.inr (.inr (.inr sh))))) (hy : C (y) = .inr (4, [.int (zo), .int (gr), .int (vo), .int (se), .int (ce), .int (le)])) (hx : C (x) = .inr (2, [.ref (x + 1), .ref (x + 2), .ref (x + 3), .ref (x + 4), .ref (x + 5), .ref (x + 6), .ref (x + 7), .ref (x + 8), .int (nI li), .int (nI sp)])) (hdv : C (x + 5) = .inl (0, 10, .inl dv)) (hK : 1 ≤ K) (hN : 6 ≤ N) {s : Int32} {j : Nat} (hp : pr_pn sh s = some y) (hj : j < 10) (h0 : dv j = 0) : gj_G md_RB_weight (d + 3) K N 0 0 0 [(0, .ref (1)), (1, .int (s)), (2, .int (nI j))] [] (n) C (fun r => r = (.inr "java/lang/ArithmeticException", n, C)) := by
  refine gj_aload_n d_RB_weight_0 rfl ?_
  refine gj_iload_n d_RB_weight_1 rfl ?_
  refine gj_callV (as := [.int (s)]) (rest := []) (K1 := 0) (N1 := 0) d_RB_weight_2 mo_RB_present gw_385 gw_387 gw_6 o1 rfl pl_RB_present (Nat.le_of_ble_eq_true rfl) (Nat.le_of_ble_eq_true rfl) (Nat.zero_le _) (Nat.zero_le _) (c_RB_present o1 hsh hp) (fun E n' C' _ h => by cases h) (fun v n' C' _ h => ?_)
  cases h
  refine gj_astore_n d_RB_weight_5 (by decide) ?_
  refine gj_iload_n d_RB_weight_6 rfl ?_
  refine gj_callS (as := [.int (nI j)]) (rest := []) (K1 := 0) (N1 := 0) d_RB_weight_7 mo_RB_needService gw_405 gw_406 gw_20 pl_RB_needService (Nat.le_of_ble_eq_true rfl) (Nat.le_of_ble_eq_true rfl) (Nat.zero_le _) (Nat.zero_le _) (c_RB_needService (pc_svc hj).1 (pc_svc hj).2) (fun E n' C' _ h => by cases h) (fun v n' C' _ h => ?_)
  cases h
  refine gj_aload_n d_RB_weight_10 rfl ?_
  refine gj_get d_RB_weight_11 gf_RB_19 o1 rfl ?_
  refine gj_aload_n d_RB_weight_14 rfl ?_
  refine gj_iload_n d_RB_weight_15 rfl ?_
  refine gj_callV (as := [.ref (y), .int (nI j)]) (rest := []) (K1 := 1) (N1 := 6) d_RB_weight_16 mo_Ra_weightToPay gw_409 gw_410 gw_411 hx rfl pl_Ra_weightToPay (Nat.le_of_ble_eq_true rfl) (Nat.le_of_ble_eq_true rfl) (by omega) (by omega) (c_Ra_weightToPay_x hx hdv hy hj (Nat.le_refl 1) (Nat.le_refl 6) h0) (fun E n16 C16 g16 q16 => ?_) (fun v n' C' _ h => by cases h)
  cases q16
  exact gj_xout rfl (by omega) (by omega) rfl
set_option maxHeartbeats 2000000 in
theorem c_RB_price {d K N n x q mk y : Nat} {C : Nat → va_E} {sh : Nat → Option Nat} {zo gr vo se ce le : Int32} (o1 : C (1) = .inr (0, [.ref (2), .ref (x), .ref (q), .ref (23), .int (nI mk), .ref (24), .ref (65), .ref (66)])) (hsh : C (23) = .inl (3, 20, .inr (.inr (.inr (.inr sh))))) (hy : C (y) = .inr (4, [.int (zo), .int (gr), .int (vo), .int (se), .int (ce), .int (le)])) {s : Int32} {j : Nat} (hp : pr_pn sh s = some y) (hj : j < 10) {P : Int32} (hP : gj_G md_RB_priceNow d 0 0 0 0 0 [(0, .ref 1), (1, .ref y), (2, .int (nI j))] [] n C (fun r => r = (gj_iv P, n, C))) : gj_G md_RB_price (d + 1) K N 0 0 0 [(0, .ref (1)), (1, .int (s)), (2, .int (nI j))] [] (n) C (fun r => r = (gj_iv P, n, C)) := by
  refine gj_aload_n d_RB_price_0 rfl ?_
  refine gj_iload_n d_RB_price_1 rfl ?_
  refine gj_callV (as := [.int (s)]) (rest := []) (K1 := 0) (N1 := 0) d_RB_price_2 mo_RB_present gw_385 gw_387 gw_6 o1 rfl pl_RB_present (Nat.le_of_ble_eq_true rfl) (Nat.le_of_ble_eq_true rfl) (Nat.zero_le _) (Nat.zero_le _) (c_RB_present o1 hsh hp) (fun E n' C' _ h => by cases h) (fun v n' C' _ h => ?_)
  cases h
  refine gj_astore_n d_RB_price_5 (by decide) ?_
  refine gj_iload_n d_RB_price_6 rfl ?_
  refine gj_callS (as := [.int (nI j)]) (rest := []) (K1 := 0) (N1 := 0) d_RB_price_7 mo_RB_needService gw_405 gw_406 gw_20 pl_RB_needService (Nat.le_of_ble_eq_true rfl) (Nat.le_of_ble_eq_true rfl) (Nat.zero_le _) (Nat.zero_le _) (c_RB_needService (pc_svc hj).1 (pc_svc hj).2) (fun E n' C' _ h => by cases h) (fun v n' C' _ h => ?_)
  cases h
  refine gj_aload_n d_RB_price_10 rfl ?_
  refine gj_aload_n d_RB_price_11 rfl ?_
  refine gj_iload_n d_RB_price_12 rfl ?_
  refine gj_callV (as := [.ref (y), .int (nI j)]) (rest := []) (K1 := 0) (N1 := 0) d_RB_price_13 mo_RB_priceNow gw_443 gw_445 gw_7 o1 rfl pl_RB_priceNow (Nat.le_of_ble_eq_true rfl) (Nat.le_of_ble_eq_true rfl) (Nat.zero_le _) (Nat.zero_le _) (hP) (fun E n' C' _ h => by cases h) (fun v n' C' _ h => ?_)
  cases h
  refine gj_iret rfl (Nat.zero_le _) (Nat.zero_le _) d_RB_price_16 ?_
  exact rfl
set_option maxHeartbeats 2000000 in
theorem c_RB_price_x3 {d K N n x q mk y : Nat} {C : Nat → va_E} {sh : Nat → Option Nat} {zo gr vo se ce le : Int32} (o1 : C (1) = .inr (0, [.ref (2), .ref (x), .ref (q), .ref (23), .int (nI mk), .ref (24), .ref (65), .ref (66)])) (hsh : C (23) = .inl (3, 20, .inr (.inr (.inr (.inr sh))))) (hy : C (y) = .inr (4, [.int (zo), .int (gr), .int (vo), .int (se), .int (ce), .int (le)])) (hK : 1 ≤ K) (hN : 6 ≤ N) {s : Int32} {j : Nat} (hp : pr_pn sh s = some y) (hj : j < 10) (hP : gj_G md_RB_priceNow d 1 6 0 0 0 [(0, .ref 1), (1, .ref y), (2, .int (nI j))] [] n C (fun r => r = (.inr "java/lang/ArithmeticException", n, C))) : gj_G md_RB_price (d + 1) K N 0 0 0 [(0, .ref (1)), (1, .int (s)), (2, .int (nI j))] [] (n) C (fun r => r = (.inr "java/lang/ArithmeticException", n, C)) := by
  refine gj_aload_n d_RB_price_0 rfl ?_
  refine gj_iload_n d_RB_price_1 rfl ?_
  refine gj_callV (as := [.int (s)]) (rest := []) (K1 := 0) (N1 := 0) d_RB_price_2 mo_RB_present gw_385 gw_387 gw_6 o1 rfl pl_RB_present (Nat.le_of_ble_eq_true rfl) (Nat.le_of_ble_eq_true rfl) (Nat.zero_le _) (Nat.zero_le _) (c_RB_present o1 hsh hp) (fun E n' C' _ h => by cases h) (fun v n' C' _ h => ?_)
  cases h
  refine gj_astore_n d_RB_price_5 (by decide) ?_
  refine gj_iload_n d_RB_price_6 rfl ?_
  refine gj_callS (as := [.int (nI j)]) (rest := []) (K1 := 0) (N1 := 0) d_RB_price_7 mo_RB_needService gw_405 gw_406 gw_20 pl_RB_needService (Nat.le_of_ble_eq_true rfl) (Nat.le_of_ble_eq_true rfl) (Nat.zero_le _) (Nat.zero_le _) (c_RB_needService (pc_svc hj).1 (pc_svc hj).2) (fun E n' C' _ h => by cases h) (fun v n' C' _ h => ?_)
  cases h
  refine gj_aload_n d_RB_price_10 rfl ?_
  refine gj_aload_n d_RB_price_11 rfl ?_
  refine gj_iload_n d_RB_price_12 rfl ?_
  refine gj_callV (as := [.ref (y), .int (nI j)]) (rest := []) (K1 := 1) (N1 := 6) d_RB_price_13 mo_RB_priceNow gw_443 gw_445 gw_7 o1 rfl pl_RB_priceNow (Nat.le_of_ble_eq_true rfl) (Nat.le_of_ble_eq_true rfl) (by omega) (by omega) (hP) (fun E n13 C13 g13 q13 => ?_) (fun v n' C' _ h => by cases h)
  cases q13
  exact gj_xout rfl (by omega) (by omega) rfl
set_option maxHeartbeats 2000000 in
theorem c_RB_book_x3 {d K N n x q mk y : Nat} {C : Nat → va_E} {sh : Nat → Option Nat} {zo gr vo se ce le : Int32} (o1 : C (1) = .inr (0, [.ref (2), .ref (x), .ref (q), .ref (23), .int (nI mk), .ref (24), .ref (65), .ref (66)])) (hsh : C (23) = .inl (3, 20, .inr (.inr (.inr (.inr sh))))) (hy : C (y) = .inr (4, [.int (zo), .int (gr), .int (vo), .int (se), .int (ce), .int (le)])) (hK : 1 ≤ K) (hN : 6 ≤ N) {s : Int32} {j : Nat} (hp : pr_pn sh s = some y) (hj : j < 10) (hb : ¬ se = -1) : gj_G md_RB_book (d + 1) K N 0 0 0 [(0, .ref (1)), (1, .int (s)), (2, .int (nI j))] [] (n) C (fun r => r = (.inr "java/lang/IllegalStateException", n, C)) := by
  refine gj_aload_n d_RB_book_0 rfl ?_
  refine gj_iload_n d_RB_book_1 rfl ?_
  refine gj_callV (as := [.int (s)]) (rest := []) (K1 := 0) (N1 := 0) d_RB_book_2 mo_RB_present gw_385 gw_387 gw_6 o1 rfl pl_RB_present (Nat.le_of_ble_eq_true rfl) (Nat.le_of_ble_eq_true rfl) (Nat.zero_le _) (Nat.zero_le _) (c_RB_present o1 hsh hp) (fun E n' C' _ h => by cases h) (fun v n' C' _ h => ?_)
  cases h
  refine gj_astore_n d_RB_book_5 (by decide) ?_
  refine gj_iload_n d_RB_book_6 rfl ?_
  refine gj_callS (as := [.int (nI j)]) (rest := []) (K1 := 0) (N1 := 0) d_RB_book_7 mo_RB_needService gw_405 gw_406 gw_20 pl_RB_needService (Nat.le_of_ble_eq_true rfl) (Nat.le_of_ble_eq_true rfl) (Nat.zero_le _) (Nat.zero_le _) (c_RB_needService (pc_svc hj).1 (pc_svc hj).2) (fun E n' C' _ h => by cases h) (fun v n' C' _ h => ?_)
  cases h
  refine gj_aload_n d_RB_book_10 rfl ?_
  refine gj_callV (as := []) (rest := []) (K1 := 0) (N1 := 0) d_RB_book_11 mo_Sh_isBooked gw_224 gw_225 gw_226 hy rfl pl_Sh_isBooked (Nat.le_of_ble_eq_true rfl) (Nat.le_of_ble_eq_true rfl) (Nat.zero_le _) (Nat.zero_le _) (c_Sh_isBooked hy) (fun E n' C' _ h => by cases h) (fun v n' C' _ h => ?_)
  cases h
  refine gj_if_eq (tgt := 27) d_RB_book_14 (by decide) (fun h14 => absurd h14 (fun q => hb ((pc_b0 _).mp q))) (fun h14 => ?_)
  refine gj_throw2 tk_RB_book_17 d_RB_book_17 d_RB_book_20 d_RB_book_21 d_RB_book_23 d_RB_book_26 rfl (Nat.le_of_ble_eq_true rfl) (by omega) (by omega) ?_
  exact rfl
set_option maxHeartbeats 2000000 in
theorem c_RB_book_x4 {d K N n x q mk y : Nat} {C : Nat → va_E} {sh : Nat → Option Nat} {zo gr vo se ce le : Int32} (o1 : C (1) = .inr (0, [.ref (2), .ref (x), .ref (q), .ref (23), .int (nI mk), .ref (24), .ref (65), .ref (66)])) (hsh : C (23) = .inl (3, 20, .inr (.inr (.inr (.inr sh))))) (hy : C (y) = .inr (4, [.int (zo), .int (gr), .int (vo), .int (se), .int (ce), .int (le)])) (hK : 1 ≤ K) (hN : 6 ≤ N) {s : Int32} {j : Nat} (hp : pr_pn sh s = some y) (hj : j < 10) {P : Int32} (hP : gj_G md_RB_priceNow d 0 0 0 0 0 [(0, .ref 1), (1, .ref y), (2, .int (nI j))] [] n C (fun r => r = (gj_iv P, n, C))) (hb : se = -1) (hn : P = -1) : gj_G md_RB_book (d + 1) K N 0 0 0 [(0, .ref (1)), (1, .int (s)), (2, .int (nI j))] [] (n) C (fun r => r = (.inr "java/lang/IllegalStateException", n, C)) := by
  refine gj_aload_n d_RB_book_0 rfl ?_
  refine gj_iload_n d_RB_book_1 rfl ?_
  refine gj_callV (as := [.int (s)]) (rest := []) (K1 := 0) (N1 := 0) d_RB_book_2 mo_RB_present gw_385 gw_387 gw_6 o1 rfl pl_RB_present (Nat.le_of_ble_eq_true rfl) (Nat.le_of_ble_eq_true rfl) (Nat.zero_le _) (Nat.zero_le _) (c_RB_present o1 hsh hp) (fun E n' C' _ h => by cases h) (fun v n' C' _ h => ?_)
  cases h
  refine gj_astore_n d_RB_book_5 (by decide) ?_
  refine gj_iload_n d_RB_book_6 rfl ?_
  refine gj_callS (as := [.int (nI j)]) (rest := []) (K1 := 0) (N1 := 0) d_RB_book_7 mo_RB_needService gw_405 gw_406 gw_20 pl_RB_needService (Nat.le_of_ble_eq_true rfl) (Nat.le_of_ble_eq_true rfl) (Nat.zero_le _) (Nat.zero_le _) (c_RB_needService (pc_svc hj).1 (pc_svc hj).2) (fun E n' C' _ h => by cases h) (fun v n' C' _ h => ?_)
  cases h
  refine gj_aload_n d_RB_book_10 rfl ?_
  refine gj_callV (as := []) (rest := []) (K1 := 0) (N1 := 0) d_RB_book_11 mo_Sh_isBooked gw_224 gw_225 gw_226 hy rfl pl_Sh_isBooked (Nat.le_of_ble_eq_true rfl) (Nat.le_of_ble_eq_true rfl) (Nat.zero_le _) (Nat.zero_le _) (c_Sh_isBooked hy) (fun E n' C' _ h => by cases h) (fun v n' C' _ h => ?_)
  cases h
  refine gj_if_eq (tgt := 27) d_RB_book_14 (by decide) (fun h14 => ?_) (fun h14 => absurd ((pc_b0 _).mpr hb) h14)
  refine gj_aload_n d_RB_book_27 rfl ?_
  refine gj_aload_n d_RB_book_28 rfl ?_
  refine gj_iload_n d_RB_book_29 rfl ?_
  refine gj_callV (as := [.ref (y), .int (nI j)]) (rest := []) (K1 := 0) (N1 := 0) d_RB_book_30 mo_RB_priceNow gw_443 gw_445 gw_7 o1 rfl pl_RB_priceNow (Nat.le_of_ble_eq_true rfl) (Nat.le_of_ble_eq_true rfl) (Nat.zero_le _) (Nat.zero_le _) (hP) (fun E n' C' _ h => by cases h) (fun v n' C' _ h => ?_)
  cases h
  refine gj_istore d_RB_book_33 (by decide) ?_
  refine gj_iload d_RB_book_35 rfl ?_
  refine gj_kc (v := (-1)) d_RB_book_37 (by decide) ?_
  refine gj_icmp_ne (tgt := 51) d_RB_book_38 (by decide) (fun h38 => absurd (hn) h38) (fun h38 => ?_)
  refine gj_throw2 tk_RB_book_41 d_RB_book_41 d_RB_book_44 d_RB_book_45 d_RB_book_47 d_RB_book_50 rfl (Nat.le_of_ble_eq_true rfl) (by omega) (by omega) ?_
  exact rfl
set_option maxHeartbeats 2000000 in
theorem c_RB_book_x5 {d K N n x q mk y : Nat} {C : Nat → va_E} {sh : Nat → Option Nat} {zo gr vo se ce le : Int32} (o1 : C (1) = .inr (0, [.ref (2), .ref (x), .ref (q), .ref (23), .int (nI mk), .ref (24), .ref (65), .ref (66)])) (hsh : C (23) = .inl (3, 20, .inr (.inr (.inr (.inr sh))))) (hy : C (y) = .inr (4, [.int (zo), .int (gr), .int (vo), .int (se), .int (ce), .int (le)])) (hK : 1 ≤ K) (hN : 6 ≤ N) {s : Int32} {j : Nat} (hp : pr_pn sh s = some y) (hj : j < 10) (hP : gj_G md_RB_priceNow d 1 6 0 0 0 [(0, .ref 1), (1, .ref y), (2, .int (nI j))] [] n C (fun r => r = (.inr "java/lang/ArithmeticException", n, C))) (hb : se = -1) : gj_G md_RB_book (d + 1) K N 0 0 0 [(0, .ref (1)), (1, .int (s)), (2, .int (nI j))] [] (n) C (fun r => r = (.inr "java/lang/ArithmeticException", n, C)) := by
  refine gj_aload_n d_RB_book_0 rfl ?_
  refine gj_iload_n d_RB_book_1 rfl ?_
  refine gj_callV (as := [.int (s)]) (rest := []) (K1 := 0) (N1 := 0) d_RB_book_2 mo_RB_present gw_385 gw_387 gw_6 o1 rfl pl_RB_present (Nat.le_of_ble_eq_true rfl) (Nat.le_of_ble_eq_true rfl) (Nat.zero_le _) (Nat.zero_le _) (c_RB_present o1 hsh hp) (fun E n' C' _ h => by cases h) (fun v n' C' _ h => ?_)
  cases h
  refine gj_astore_n d_RB_book_5 (by decide) ?_
  refine gj_iload_n d_RB_book_6 rfl ?_
  refine gj_callS (as := [.int (nI j)]) (rest := []) (K1 := 0) (N1 := 0) d_RB_book_7 mo_RB_needService gw_405 gw_406 gw_20 pl_RB_needService (Nat.le_of_ble_eq_true rfl) (Nat.le_of_ble_eq_true rfl) (Nat.zero_le _) (Nat.zero_le _) (c_RB_needService (pc_svc hj).1 (pc_svc hj).2) (fun E n' C' _ h => by cases h) (fun v n' C' _ h => ?_)
  cases h
  refine gj_aload_n d_RB_book_10 rfl ?_
  refine gj_callV (as := []) (rest := []) (K1 := 0) (N1 := 0) d_RB_book_11 mo_Sh_isBooked gw_224 gw_225 gw_226 hy rfl pl_Sh_isBooked (Nat.le_of_ble_eq_true rfl) (Nat.le_of_ble_eq_true rfl) (Nat.zero_le _) (Nat.zero_le _) (c_Sh_isBooked hy) (fun E n' C' _ h => by cases h) (fun v n' C' _ h => ?_)
  cases h
  refine gj_if_eq (tgt := 27) d_RB_book_14 (by decide) (fun h14 => ?_) (fun h14 => absurd ((pc_b0 _).mpr hb) h14)
  refine gj_aload_n d_RB_book_27 rfl ?_
  refine gj_aload_n d_RB_book_28 rfl ?_
  refine gj_iload_n d_RB_book_29 rfl ?_
  refine gj_callV (as := [.ref (y), .int (nI j)]) (rest := []) (K1 := 1) (N1 := 6) d_RB_book_30 mo_RB_priceNow gw_443 gw_445 gw_7 o1 rfl pl_RB_priceNow (Nat.le_of_ble_eq_true rfl) (Nat.le_of_ble_eq_true rfl) (by omega) (by omega) (hP) (fun E n30 C30 g30 q30 => ?_) (fun v n' C' _ h => by cases h)
  cases q30
  exact gj_xout rfl (by omega) (by omega) rfl
set_option maxHeartbeats 2000000 in
theorem c_RB_book {d K N n x q mk y : Nat} {C : Nat → va_E} {sh : Nat → Option Nat} {zo gr vo se ce le : Int32} {bk : Nat → Int32} (o1 : C (1) = .inr (0, [.ref (2), .ref (x), .ref (q), .ref (23), .int (nI mk), .ref (24), .ref (65), .ref (66)])) (hsh : C (23) = .inl (3, 20, .inr (.inr (.inr (.inr sh))))) (hy : C (y) = .inr (4, [.int (zo), .int (gr), .int (vo), .int (se), .int (ce), .int (le)])) (o65 : C (65) = .inl (0, 10, .inl bk)) {s : Int32} {j : Nat} (hp : pr_pn sh s = some y) (hj : j < 10) {P : Int32} (hP : gj_G md_RB_priceNow d 0 0 0 0 0 [(0, .ref 1), (1, .ref y), (2, .int (nI j))] [] n C (fun r => r = (gj_iv P, n, C))) (hb : se = -1) (hn : ¬ P = -1) (hy9 : 69 < y) : gj_G md_RB_book (d + 1) K N 0 0 0 [(0, .ref (1)), (1, .int (s)), (2, .int (nI j))] [] (n) C (fun r => r.1 = gj_iv P ∧ r.2.1 = n ∧ r.2.2 y = .inr (4, [.int zo, .int gr, .int vo, .int (nI j), .int P, .int le]) ∧ r.2.2 65 = .inl (0, 10, .inl (upd bk j (bk j + 1))) ∧ ∀ z, z ≠ y → z ≠ 65 → r.2.2 z = C z) := by
  refine gj_aload_n d_RB_book_0 rfl ?_
  refine gj_iload_n d_RB_book_1 rfl ?_
  refine gj_callV (as := [.int (s)]) (rest := []) (K1 := 0) (N1 := 0) d_RB_book_2 mo_RB_present gw_385 gw_387 gw_6 o1 rfl pl_RB_present (Nat.le_of_ble_eq_true rfl) (Nat.le_of_ble_eq_true rfl) (Nat.zero_le _) (Nat.zero_le _) (c_RB_present o1 hsh hp) (fun E n' C' _ h => by cases h) (fun v n' C' _ h => ?_)
  cases h
  refine gj_astore_n d_RB_book_5 (by decide) ?_
  refine gj_iload_n d_RB_book_6 rfl ?_
  refine gj_callS (as := [.int (nI j)]) (rest := []) (K1 := 0) (N1 := 0) d_RB_book_7 mo_RB_needService gw_405 gw_406 gw_20 pl_RB_needService (Nat.le_of_ble_eq_true rfl) (Nat.le_of_ble_eq_true rfl) (Nat.zero_le _) (Nat.zero_le _) (c_RB_needService (pc_svc hj).1 (pc_svc hj).2) (fun E n' C' _ h => by cases h) (fun v n' C' _ h => ?_)
  cases h
  refine gj_aload_n d_RB_book_10 rfl ?_
  refine gj_callV (as := []) (rest := []) (K1 := 0) (N1 := 0) d_RB_book_11 mo_Sh_isBooked gw_224 gw_225 gw_226 hy rfl pl_Sh_isBooked (Nat.le_of_ble_eq_true rfl) (Nat.le_of_ble_eq_true rfl) (Nat.zero_le _) (Nat.zero_le _) (c_Sh_isBooked hy) (fun E n' C' _ h => by cases h) (fun v n' C' _ h => ?_)
  cases h
  refine gj_if_eq (tgt := 27) d_RB_book_14 (by decide) (fun h14 => ?_) (fun h14 => absurd ((pc_b0 _).mpr hb) h14)
  refine gj_aload_n d_RB_book_27 rfl ?_
  refine gj_aload_n d_RB_book_28 rfl ?_
  refine gj_iload_n d_RB_book_29 rfl ?_
  refine gj_callV (as := [.ref (y), .int (nI j)]) (rest := []) (K1 := 0) (N1 := 0) d_RB_book_30 mo_RB_priceNow gw_443 gw_445 gw_7 o1 rfl pl_RB_priceNow (Nat.le_of_ble_eq_true rfl) (Nat.le_of_ble_eq_true rfl) (Nat.zero_le _) (Nat.zero_le _) (hP) (fun E n' C' _ h => by cases h) (fun v n' C' _ h => ?_)
  cases h
  refine gj_istore d_RB_book_33 (by decide) ?_
  refine gj_iload d_RB_book_35 rfl ?_
  refine gj_kc (v := (-1)) d_RB_book_37 (by decide) ?_
  refine gj_icmp_ne (tgt := 51) d_RB_book_38 (by decide) (fun h38 => ?_) (fun h38 => absurd h38 (hn))
  refine gj_aload_n d_RB_book_51 rfl ?_
  refine gj_iload_n d_RB_book_52 rfl ?_
  refine gj_put d_RB_book_53 gp_RB_138 hy (Nat.le_of_ble_eq_true rfl) (fun _ => rfl) (fun _ => rfl) ?_
  obtain ⟨C1, eC1⟩ : ∃ Z0, Z0 = va_up C (y) (.inr (4, [.int (zo), .int (gr), .int (vo), .int (nI j), .int (ce), .int (le)])) := ⟨_, rfl⟩
  refine gj_mem eC1 ?_
  have f2 : C1 (1) = .inr (0, [.ref (2), .ref (x), .ref (q), .ref (23), .int (nI mk), .ref (24), .ref (65), .ref (66)]) := by rw [eC1, va_up_ne _ _ (by omega)]; exact o1
  have f3 : C1 (23) = .inl (3, 20, .inr (.inr (.inr (.inr sh)))) := by rw [eC1, va_up_ne _ _ (by omega)]; exact hsh
  have f4 : C1 (y) = .inr (4, [.int (zo), .int (gr), .int (vo), .int (nI j), .int (ce), .int (le)]) := by rw [eC1]; exact va_up_self _ _ _
  have f5 : C1 (65) = .inl (0, 10, .inl bk) := by rw [eC1, va_up_ne _ _ (by omega)]; exact o65
  refine gj_aload_n d_RB_book_56 rfl ?_
  refine gj_iload d_RB_book_57 rfl ?_
  refine gj_put d_RB_book_59 gp_RB_141 f4 (Nat.le_of_ble_eq_true rfl) (fun _ => rfl) (fun _ => rfl) ?_
  obtain ⟨C6, eC6⟩ : ∃ Z0, Z0 = va_up C1 (y) (.inr (4, [.int (zo), .int (gr), .int (vo), .int (nI j), .int (P), .int (le)])) := ⟨_, rfl⟩
  refine gj_mem eC6 ?_
  have f7 : C6 (1) = .inr (0, [.ref (2), .ref (x), .ref (q), .ref (23), .int (nI mk), .ref (24), .ref (65), .ref (66)]) := by rw [eC6, va_up_ne _ _ (by omega)]; exact f2
  have f8 : C6 (23) = .inl (3, 20, .inr (.inr (.inr (.inr sh)))) := by rw [eC6, va_up_ne _ _ (by omega)]; exact f3
  have f9 : C6 (y) = .inr (4, [.int (zo), .int (gr), .int (vo), .int (nI j), .int (P), .int (le)]) := by rw [eC6]; exact va_up_self _ _ _
  have f10 : C6 (65) = .inl (0, 10, .inl bk) := by rw [eC6, va_up_ne _ _ (by omega)]; exact f5
  refine gj_aload_n d_RB_book_62 rfl ?_
  refine gj_get d_RB_book_63 gf_RB_45 f7 rfl ?_
  refine gj_iload_n d_RB_book_66 rfl ?_
  refine gj_dup2 d_RB_book_67 rfl rfl ?_
  refine gj_iald d_RB_book_68 f10 rfl (vp_in_nI (by omega) (by decide)) ?_
  refine gj_top (y := bk (j)) (congrArg bk (nI_clamp (by omega))) ?_
  refine gj_kc (v := 1) d_RB_book_69 (by decide) ?_
  refine gj_iadd d_RB_book_70 ?_
  refine gj_iast d_RB_book_71 f10 rfl (vp_in_nI (by omega) (by decide)) ?_
  obtain ⟨C11, eC11⟩ : ∃ Z0, Z0 = va_up C6 (65) (.inl (0, 10, .inl (upd bk (j) ((bk (j)) + (1))))) := ⟨_, rfl⟩
  refine gj_mem (eC11.trans (by rw [nI_clamp (by omega)])) ?_
  have f12 : C11 (1) = .inr (0, [.ref (2), .ref (x), .ref (q), .ref (23), .int (nI mk), .ref (24), .ref (65), .ref (66)]) := by rw [eC11, va_up_ne _ _ (by omega)]; exact f7
  have f13 : C11 (23) = .inl (3, 20, .inr (.inr (.inr (.inr sh)))) := by rw [eC11, va_up_ne _ _ (by omega)]; exact f8
  have f14 : C11 (y) = .inr (4, [.int (zo), .int (gr), .int (vo), .int (nI j), .int (P), .int (le)]) := by rw [eC11, va_up_ne _ _ (by omega)]; exact f9
  have f15 : C11 (65) = .inl (0, 10, .inl (upd bk (j) ((bk (j)) + (1)))) := by rw [eC11]; exact va_up_self _ _ _
  refine gj_iload d_RB_book_72 rfl ?_
  refine gj_iret rfl (Nat.zero_le _) (Nat.zero_le _) d_RB_book_74 ?_
  exact ⟨rfl, rfl, f14, f15, fun z a1 a2 => by show C11 z = C z; rw [eC11, va_up_ne _ _ a2, eC6, va_up_ne _ _ a1, eC1, va_up_ne _ _ a1]⟩
set_option maxHeartbeats 2000000 in
theorem c_RB_invoice_x3 {d K N n x q mk y : Nat} {C : Nat → va_E} {sh : Nat → Option Nat} {zo gr vo se ce le : Int32} (o1 : C (1) = .inr (0, [.ref (2), .ref (x), .ref (q), .ref (23), .int (nI mk), .ref (24), .ref (65), .ref (66)])) (hsh : C (23) = .inl (3, 20, .inr (.inr (.inr (.inr sh))))) (hy : C (y) = .inr (4, [.int (zo), .int (gr), .int (vo), .int (se), .int (ce), .int (le)])) (hK : 1 ≤ K) (hN : 6 ≤ N) {s a : Int32} (hp : pr_pn sh s = some y) (ha : 0 ≤ a ∧ a ≤ 10000000) (h : ¬ (¬ se = -1 ∧ le = -1)) : gj_G md_RB_invoice (d + 1) K N 0 0 0 [(0, .ref (1)), (1, .int (s)), (2, .int (a))] [] (n) C (fun r => r = (.inr "java/lang/IllegalStateException", n, C)) := by
  refine gj_aload_n d_RB_invoice_0 rfl ?_
  refine gj_iload_n d_RB_invoice_1 rfl ?_
  refine gj_callV (as := [.int (s)]) (rest := []) (K1 := 0) (N1 := 0) d_RB_invoice_2 mo_RB_present gw_385 gw_387 gw_6 o1 rfl pl_RB_present (Nat.le_of_ble_eq_true rfl) (Nat.le_of_ble_eq_true rfl) (Nat.zero_le _) (Nat.zero_le _) (c_RB_present o1 hsh hp) (fun E n' C' _ h => by cases h) (fun v n' C' _ h => ?_)
  cases h
  refine gj_astore_n d_RB_invoice_5 (by decide) ?_
  refine gj_iload_n d_RB_invoice_6 rfl ?_
  refine gj_kc (v := 0) d_RB_invoice_7 (by decide) ?_
  refine gj_ldc d_RB_invoice_8 gw_549 ?_
  refine gj_callS (as := [.int (a), .int (0), .int (10000000)]) (rest := []) (K1 := 0) (N1 := 0) d_RB_invoice_10 mo_RB_needWithin gw_241 gw_242 gw_20 pl_RB_needWithin (Nat.le_of_ble_eq_true rfl) (Nat.le_of_ble_eq_true rfl) (Nat.zero_le _) (Nat.zero_le _) (c_RB_needWithin ha.1 ha.2) (fun E n' C' _ h => by cases h) (fun v n' C' _ h => ?_)
  cases h
  refine gj_aload_n d_RB_invoice_13 rfl ?_
  refine gj_callV (as := []) (rest := []) (K1 := 0) (N1 := 0) d_RB_invoice_14 mo_Sh_isBooked gw_224 gw_225 gw_226 hy rfl pl_Sh_isBooked (Nat.le_of_ble_eq_true rfl) (Nat.le_of_ble_eq_true rfl) (Nat.zero_le _) (Nat.zero_le _) (c_Sh_isBooked hy) (fun E n' C' _ h => by cases h) (fun v n' C' _ h => ?_)
  cases h
  refine gj_if_eq (tgt := 27) d_RB_invoice_17 (by decide) (fun h17 => ?_) (fun h17 => ?_)
  · refine gj_throw2 tk_RB_invoice_27 d_RB_invoice_27 d_RB_invoice_30 d_RB_invoice_31 d_RB_invoice_33 d_RB_invoice_36 rfl (Nat.le_of_ble_eq_true rfl) (by omega) (by omega) ?_
    exact rfl
  · refine gj_aload_n d_RB_invoice_20 rfl ?_
    refine gj_callV (as := []) (rest := []) (K1 := 0) (N1 := 0) d_RB_invoice_21 mo_Sh_isInvoiced gw_228 gw_229 gw_230 hy rfl pl_Sh_isInvoiced (Nat.le_of_ble_eq_true rfl) (Nat.le_of_ble_eq_true rfl) (Nat.zero_le _) (Nat.zero_le _) (c_Sh_isInvoiced hy) (fun E n' C' _ h => by cases h) (fun v n' C' _ h => ?_)
    cases h
    refine gj_if_eq (tgt := 37) d_RB_invoice_24 (by decide) (fun h24 => ?_) (fun h24 => ?_)
    · exact absurd ⟨fun q => h17 ((pc_b0 _).mpr q), (pc_b0 _).mp h24⟩ h
    · refine gj_throw2 tk_RB_invoice_27 d_RB_invoice_27 d_RB_invoice_30 d_RB_invoice_31 d_RB_invoice_33 d_RB_invoice_36 rfl (Nat.le_of_ble_eq_true rfl) (by omega) (by omega) ?_
      exact rfl
set_option maxHeartbeats 2000000 in
theorem c_RB_invoice {d K N n x q mk y : Nat} {C : Nat → va_E} {sh : Nat → Option Nat} {zo gr vo se ce le : Int32} (o1 : C (1) = .inr (0, [.ref (2), .ref (x), .ref (q), .ref (23), .int (nI mk), .ref (24), .ref (65), .ref (66)])) (hsh : C (23) = .inl (3, 20, .inr (.inr (.inr (.inr sh))))) (hy : C (y) = .inr (4, [.int (zo), .int (gr), .int (vo), .int (se), .int (ce), .int (le)])) {s a : Int32} (hp : pr_pn sh s = some y) (ha : 0 ≤ a ∧ a ≤ 10000000) (h1 : ¬ se = -1) (h2 : le = -1) (hy9 : 69 < y) : gj_G md_RB_invoice (d + 1) K N 0 0 0 [(0, .ref (1)), (1, .int (s)), (2, .int (a))] [] (n) C (fun r => r.1 = gj_iv (a - ce) ∧ r.2.1 = n ∧ r.2.2 y = .inr (4, [.int zo, .int gr, .int vo, .int se, .int ce, .int a]) ∧ ∀ z, z ≠ y → r.2.2 z = C z) := by
  refine gj_aload_n d_RB_invoice_0 rfl ?_
  refine gj_iload_n d_RB_invoice_1 rfl ?_
  refine gj_callV (as := [.int (s)]) (rest := []) (K1 := 0) (N1 := 0) d_RB_invoice_2 mo_RB_present gw_385 gw_387 gw_6 o1 rfl pl_RB_present (Nat.le_of_ble_eq_true rfl) (Nat.le_of_ble_eq_true rfl) (Nat.zero_le _) (Nat.zero_le _) (c_RB_present o1 hsh hp) (fun E n' C' _ h => by cases h) (fun v n' C' _ h => ?_)
  cases h
  refine gj_astore_n d_RB_invoice_5 (by decide) ?_
  refine gj_iload_n d_RB_invoice_6 rfl ?_
  refine gj_kc (v := 0) d_RB_invoice_7 (by decide) ?_
  refine gj_ldc d_RB_invoice_8 gw_549 ?_
  refine gj_callS (as := [.int (a), .int (0), .int (10000000)]) (rest := []) (K1 := 0) (N1 := 0) d_RB_invoice_10 mo_RB_needWithin gw_241 gw_242 gw_20 pl_RB_needWithin (Nat.le_of_ble_eq_true rfl) (Nat.le_of_ble_eq_true rfl) (Nat.zero_le _) (Nat.zero_le _) (c_RB_needWithin ha.1 ha.2) (fun E n' C' _ h => by cases h) (fun v n' C' _ h => ?_)
  cases h
  refine gj_aload_n d_RB_invoice_13 rfl ?_
  refine gj_callV (as := []) (rest := []) (K1 := 0) (N1 := 0) d_RB_invoice_14 mo_Sh_isBooked gw_224 gw_225 gw_226 hy rfl pl_Sh_isBooked (Nat.le_of_ble_eq_true rfl) (Nat.le_of_ble_eq_true rfl) (Nat.zero_le _) (Nat.zero_le _) (c_Sh_isBooked hy) (fun E n' C' _ h => by cases h) (fun v n' C' _ h => ?_)
  cases h
  refine gj_if_eq (tgt := 27) d_RB_invoice_17 (by decide) (fun h17 => absurd h17 (fun q => h1 ((pc_b0 _).mp q))) (fun h17 => ?_)
  refine gj_aload_n d_RB_invoice_20 rfl ?_
  refine gj_callV (as := []) (rest := []) (K1 := 0) (N1 := 0) d_RB_invoice_21 mo_Sh_isInvoiced gw_228 gw_229 gw_230 hy rfl pl_Sh_isInvoiced (Nat.le_of_ble_eq_true rfl) (Nat.le_of_ble_eq_true rfl) (Nat.zero_le _) (Nat.zero_le _) (c_Sh_isInvoiced hy) (fun E n' C' _ h => by cases h) (fun v n' C' _ h => ?_)
  cases h
  refine gj_if_eq (tgt := 37) d_RB_invoice_24 (by decide) (fun h24 => ?_) (fun h24 => absurd ((pc_b0 _).mpr h2) h24)
  refine gj_aload_n d_RB_invoice_37 rfl ?_
  refine gj_iload_n d_RB_invoice_38 rfl ?_
  refine gj_put d_RB_invoice_39 gp_RB_161 hy (Nat.le_of_ble_eq_true rfl) (fun _ => rfl) (fun _ => rfl) ?_
  obtain ⟨C1, eC1⟩ : ∃ Z0, Z0 = va_up C (y) (.inr (4, [.int (zo), .int (gr), .int (vo), .int (se), .int (ce), .int (a)])) := ⟨_, rfl⟩
  refine gj_mem eC1 ?_
  have f2 : C1 (1) = .inr (0, [.ref (2), .ref (x), .ref (q), .ref (23), .int (nI mk), .ref (24), .ref (65), .ref (66)]) := by rw [eC1, va_up_ne _ _ (by omega)]; exact o1
  have f3 : C1 (23) = .inl (3, 20, .inr (.inr (.inr (.inr sh)))) := by rw [eC1, va_up_ne _ _ (by omega)]; exact hsh
  have f4 : C1 (y) = .inr (4, [.int (zo), .int (gr), .int (vo), .int (se), .int (ce), .int (a)]) := by rw [eC1]; exact va_up_self _ _ _
  refine gj_iload_n d_RB_invoice_42 rfl ?_
  refine gj_aload_n d_RB_invoice_43 rfl ?_
  refine gj_get d_RB_invoice_44 gf_RB_141 f4 rfl ?_
  refine gj_isub d_RB_invoice_47 ?_
  refine gj_iret rfl (Nat.zero_le _) (Nat.zero_le _) d_RB_invoice_48 ?_
  exact ⟨rfl, rfl, f4, fun z a1 => by show C1 z = C z; rw [eC1, va_up_ne _ _ a1]⟩
set_option maxHeartbeats 2000000 in
theorem c_RB_refund_x3 {d K N n x q mk y : Nat} {C : Nat → va_E} {sh : Nat → Option Nat} {zo gr vo se ce le : Int32} (o1 : C (1) = .inr (0, [.ref (2), .ref (x), .ref (q), .ref (23), .int (nI mk), .ref (24), .ref (65), .ref (66)])) (hsh : C (23) = .inl (3, 20, .inr (.inr (.inr (.inr sh))))) (hy : C (y) = .inr (4, [.int (zo), .int (gr), .int (vo), .int (se), .int (ce), .int (le)])) (hK : 1 ≤ K) (hN : 6 ≤ N) {s a : Int32} (hp : pr_pn sh s = some y) (ha : 1 ≤ a ∧ a ≤ 10000000) (h : ¬ (¬ le = -1 ∧ a ≤ le)) : gj_G md_RB_refund (d + 1) K N 0 0 0 [(0, .ref (1)), (1, .int (s)), (2, .int (a))] [] (n) C (fun r => r = (.inr "java/lang/IllegalStateException", n, C)) := by
  refine gj_aload_n d_RB_refund_0 rfl ?_
  refine gj_iload_n d_RB_refund_1 rfl ?_
  refine gj_callV (as := [.int (s)]) (rest := []) (K1 := 0) (N1 := 0) d_RB_refund_2 mo_RB_present gw_385 gw_387 gw_6 o1 rfl pl_RB_present (Nat.le_of_ble_eq_true rfl) (Nat.le_of_ble_eq_true rfl) (Nat.zero_le _) (Nat.zero_le _) (c_RB_present o1 hsh hp) (fun E n' C' _ h => by cases h) (fun v n' C' _ h => ?_)
  cases h
  refine gj_astore_n d_RB_refund_5 (by decide) ?_
  refine gj_iload_n d_RB_refund_6 rfl ?_
  refine gj_kc (v := 1) d_RB_refund_7 (by decide) ?_
  refine gj_ldc d_RB_refund_8 gw_549 ?_
  refine gj_callS (as := [.int (a), .int (1), .int (10000000)]) (rest := []) (K1 := 0) (N1 := 0) d_RB_refund_10 mo_RB_needWithin gw_241 gw_242 gw_20 pl_RB_needWithin (Nat.le_of_ble_eq_true rfl) (Nat.le_of_ble_eq_true rfl) (Nat.zero_le _) (Nat.zero_le _) (c_RB_needWithin ha.1 ha.2) (fun E n' C' _ h => by cases h) (fun v n' C' _ h => ?_)
  cases h
  refine gj_aload_n d_RB_refund_13 rfl ?_
  refine gj_callV (as := []) (rest := []) (K1 := 0) (N1 := 0) d_RB_refund_14 mo_Sh_isInvoiced gw_228 gw_229 gw_230 hy rfl pl_Sh_isInvoiced (Nat.le_of_ble_eq_true rfl) (Nat.le_of_ble_eq_true rfl) (Nat.zero_le _) (Nat.zero_le _) (c_Sh_isInvoiced hy) (fun E n' C' _ h => by cases h) (fun v n' C' _ h => ?_)
  cases h
  refine gj_if_eq (tgt := 28) d_RB_refund_17 (by decide) (fun h17 => ?_) (fun h17 => ?_)
  · refine gj_throw2 tk_RB_refund_28 d_RB_refund_28 d_RB_refund_31 d_RB_refund_32 d_RB_refund_34 d_RB_refund_37 rfl (Nat.le_of_ble_eq_true rfl) (by omega) (by omega) ?_
    exact rfl
  · refine gj_iload_n d_RB_refund_20 rfl ?_
    refine gj_aload_n d_RB_refund_21 rfl ?_
    refine gj_get d_RB_refund_22 gf_RB_161 hy rfl ?_
    refine gj_icmp_le (tgt := 38) d_RB_refund_25 (by decide) (fun h25 => ?_) (fun h25 => ?_)
    · exact absurd ⟨fun q => h17 ((pc_b0 _).mpr q), h25⟩ h
    · refine gj_throw2 tk_RB_refund_28 d_RB_refund_28 d_RB_refund_31 d_RB_refund_32 d_RB_refund_34 d_RB_refund_37 rfl (Nat.le_of_ble_eq_true rfl) (by omega) (by omega) ?_
      exact rfl
set_option maxHeartbeats 2000000 in
theorem c_RB_refund {d K N n x q mk y : Nat} {C : Nat → va_E} {sh : Nat → Option Nat} {zo gr vo se ce le : Int32} (o1 : C (1) = .inr (0, [.ref (2), .ref (x), .ref (q), .ref (23), .int (nI mk), .ref (24), .ref (65), .ref (66)])) (hsh : C (23) = .inl (3, 20, .inr (.inr (.inr (.inr sh))))) (hy : C (y) = .inr (4, [.int (zo), .int (gr), .int (vo), .int (se), .int (ce), .int (le)])) {s a : Int32} (hp : pr_pn sh s = some y) (ha : 1 ≤ a ∧ a ≤ 10000000) (h1 : ¬ le = -1) (h2 : a ≤ le) (hy9 : 69 < y) : gj_G md_RB_refund (d + 1) K N 0 0 0 [(0, .ref (1)), (1, .int (s)), (2, .int (a))] [] (n) C (fun r => r.1 = gj_iv (le - a) ∧ r.2.1 = n ∧ r.2.2 y = .inr (4, [.int zo, .int gr, .int vo, .int se, .int ce, .int (le - a)]) ∧ ∀ z, z ≠ y → r.2.2 z = C z) := by
  refine gj_aload_n d_RB_refund_0 rfl ?_
  refine gj_iload_n d_RB_refund_1 rfl ?_
  refine gj_callV (as := [.int (s)]) (rest := []) (K1 := 0) (N1 := 0) d_RB_refund_2 mo_RB_present gw_385 gw_387 gw_6 o1 rfl pl_RB_present (Nat.le_of_ble_eq_true rfl) (Nat.le_of_ble_eq_true rfl) (Nat.zero_le _) (Nat.zero_le _) (c_RB_present o1 hsh hp) (fun E n' C' _ h => by cases h) (fun v n' C' _ h => ?_)
  cases h
  refine gj_astore_n d_RB_refund_5 (by decide) ?_
  refine gj_iload_n d_RB_refund_6 rfl ?_
  refine gj_kc (v := 1) d_RB_refund_7 (by decide) ?_
  refine gj_ldc d_RB_refund_8 gw_549 ?_
  refine gj_callS (as := [.int (a), .int (1), .int (10000000)]) (rest := []) (K1 := 0) (N1 := 0) d_RB_refund_10 mo_RB_needWithin gw_241 gw_242 gw_20 pl_RB_needWithin (Nat.le_of_ble_eq_true rfl) (Nat.le_of_ble_eq_true rfl) (Nat.zero_le _) (Nat.zero_le _) (c_RB_needWithin ha.1 ha.2) (fun E n' C' _ h => by cases h) (fun v n' C' _ h => ?_)
  cases h
  refine gj_aload_n d_RB_refund_13 rfl ?_
  refine gj_callV (as := []) (rest := []) (K1 := 0) (N1 := 0) d_RB_refund_14 mo_Sh_isInvoiced gw_228 gw_229 gw_230 hy rfl pl_Sh_isInvoiced (Nat.le_of_ble_eq_true rfl) (Nat.le_of_ble_eq_true rfl) (Nat.zero_le _) (Nat.zero_le _) (c_Sh_isInvoiced hy) (fun E n' C' _ h => by cases h) (fun v n' C' _ h => ?_)
  cases h
  refine gj_if_eq (tgt := 28) d_RB_refund_17 (by decide) (fun h17 => absurd h17 (fun q => h1 ((pc_b0 _).mp q))) (fun h17 => ?_)
  refine gj_iload_n d_RB_refund_20 rfl ?_
  refine gj_aload_n d_RB_refund_21 rfl ?_
  refine gj_get d_RB_refund_22 gf_RB_161 hy rfl ?_
  refine gj_icmp_le (tgt := 38) d_RB_refund_25 (by decide) (fun h25 => ?_) (fun h25 => absurd (h2) h25)
  refine gj_aload_n d_RB_refund_38 rfl ?_
  refine gj_dup d_RB_refund_39 rfl ?_
  refine gj_get d_RB_refund_40 gf_RB_161 hy rfl ?_
  refine gj_iload_n d_RB_refund_43 rfl ?_
  refine gj_isub d_RB_refund_44 ?_
  refine gj_put d_RB_refund_45 gp_RB_161 hy (Nat.le_of_ble_eq_true rfl) (fun _ => rfl) (fun _ => rfl) ?_
  obtain ⟨C1, eC1⟩ : ∃ Z0, Z0 = va_up C (y) (.inr (4, [.int (zo), .int (gr), .int (vo), .int (se), .int (ce), .int ((le) - (a))])) := ⟨_, rfl⟩
  refine gj_mem eC1 ?_
  have f2 : C1 (1) = .inr (0, [.ref (2), .ref (x), .ref (q), .ref (23), .int (nI mk), .ref (24), .ref (65), .ref (66)]) := by rw [eC1, va_up_ne _ _ (by omega)]; exact o1
  have f3 : C1 (23) = .inl (3, 20, .inr (.inr (.inr (.inr sh)))) := by rw [eC1, va_up_ne _ _ (by omega)]; exact hsh
  have f4 : C1 (y) = .inr (4, [.int (zo), .int (gr), .int (vo), .int (se), .int (ce), .int ((le) - (a))]) := by rw [eC1]; exact va_up_self _ _ _
  refine gj_aload_n d_RB_refund_48 rfl ?_
  refine gj_get d_RB_refund_49 gf_RB_161 f4 rfl ?_
  refine gj_iret rfl (Nat.zero_le _) (Nat.zero_le _) d_RB_refund_52 ?_
  exact ⟨rfl, rfl, f4, fun z a1 => by show C1 z = C z; rw [eC1, va_up_ne _ _ a1]⟩
set_option maxHeartbeats 2000000 in
theorem c_RB_combine_x2 {d K N n x q mk y y2 : Nat} {C : Nat → va_E} {sh : Nat → Option Nat} {zo gr vo se ce le zo2 gr2 vo2 se2 ce2 le2 : Int32} (o1 : C (1) = .inr (0, [.ref (2), .ref (x), .ref (q), .ref (23), .int (nI mk), .ref (24), .ref (65), .ref (66)])) (hsh : C (23) = .inl (3, 20, .inr (.inr (.inr (.inr sh))))) (hy : C (y) = .inr (4, [.int (zo), .int (gr), .int (vo), .int (se), .int (ce), .int (le)])) (hy2 : C (y2) = .inr (4, [.int (zo2), .int (gr2), .int (vo2), .int (se2), .int (ce2), .int (le2)])) (hK : 1 ≤ K) (hN : 6 ≤ N) {s a : Int32} (hp : pr_pn sh s = some y) (hp2 : pr_pn sh a = some y2) (h : ¬ (¬ s = a ∧ se = -1 ∧ se2 = -1 ∧ zo = zo2 ∧ gr + gr2 ≤ 100000 ∧ vo + vo2 ≤ 100000000)) : gj_G md_RB_combine (d + 1) K N 0 0 0 [(0, .ref (1)), (1, .int (s)), (2, .int (a))] [] (n) C (fun r => r = (.inr "java/lang/IllegalStateException", n, C)) := by
  refine gj_aload_n d_RB_combine_0 rfl ?_
  refine gj_iload_n d_RB_combine_1 rfl ?_
  refine gj_callV (as := [.int (s)]) (rest := []) (K1 := 0) (N1 := 0) d_RB_combine_2 mo_RB_present gw_385 gw_387 gw_6 o1 rfl pl_RB_present (Nat.le_of_ble_eq_true rfl) (Nat.le_of_ble_eq_true rfl) (Nat.zero_le _) (Nat.zero_le _) (c_RB_present o1 hsh hp) (fun E n' C' _ h => by cases h) (fun v n' C' _ h => ?_)
  cases h
  refine gj_astore_n d_RB_combine_5 (by decide) ?_
  refine gj_aload_n d_RB_combine_6 rfl ?_
  refine gj_iload_n d_RB_combine_7 rfl ?_
  refine gj_callV (as := [.int (a)]) (rest := []) (K1 := 0) (N1 := 0) d_RB_combine_8 mo_RB_present gw_385 gw_387 gw_6 o1 rfl pl_RB_present (Nat.le_of_ble_eq_true rfl) (Nat.le_of_ble_eq_true rfl) (Nat.zero_le _) (Nat.zero_le _) (c_RB_present o1 hsh hp2) (fun E n' C' _ h => by cases h) (fun v n' C' _ h => ?_)
  cases h
  refine gj_astore d_RB_combine_11 (by decide) ?_
  refine gj_iload_n d_RB_combine_13 rfl ?_
  refine gj_iload_n d_RB_combine_14 rfl ?_
  refine gj_icmp_ne (tgt := 28) d_RB_combine_15 (by decide) (fun h15 => ?_) (fun h15 => ?_)
  · refine gj_aload_n d_RB_combine_28 rfl ?_
    refine gj_callV (as := []) (rest := []) (K1 := 0) (N1 := 0) d_RB_combine_29 mo_Sh_isBooked gw_224 gw_225 gw_226 hy rfl pl_Sh_isBooked (Nat.le_of_ble_eq_true rfl) (Nat.le_of_ble_eq_true rfl) (Nat.zero_le _) (Nat.zero_le _) (c_Sh_isBooked hy) (fun E n' C' _ h => by cases h) (fun v n' C' _ h => ?_)
    cases h
    refine gj_if_ne (tgt := 43) d_RB_combine_32 (by decide) (fun h32 => ?_) (fun h32 => ?_)
    · refine gj_throw2 tk_RB_combine_43 d_RB_combine_43 d_RB_combine_46 d_RB_combine_47 d_RB_combine_49 d_RB_combine_52 rfl (Nat.le_of_ble_eq_true rfl) (by omega) (by omega) ?_
      exact rfl
    · refine gj_aload d_RB_combine_35 rfl ?_
      refine gj_callV (as := []) (rest := []) (K1 := 0) (N1 := 0) d_RB_combine_37 mo_Sh_isBooked gw_224 gw_225 gw_226 hy2 rfl pl_Sh_isBooked (Nat.le_of_ble_eq_true rfl) (Nat.le_of_ble_eq_true rfl) (Nat.zero_le _) (Nat.zero_le _) (c_Sh_isBooked hy2) (fun E n' C' _ h => by cases h) (fun v n' C' _ h => ?_)
      cases h
      refine gj_if_eq (tgt := 53) d_RB_combine_40 (by decide) (fun h40 => ?_) (fun h40 => ?_)
      · refine gj_aload_n d_RB_combine_53 rfl ?_
        refine gj_get d_RB_combine_54 gf_RB_103 hy rfl ?_
        refine gj_aload d_RB_combine_57 rfl ?_
        refine gj_get d_RB_combine_59 gf_RB_103 hy2 rfl ?_
        refine gj_icmp_eq (tgt := 75) d_RB_combine_62 (by decide) (fun h62 => ?_) (fun h62 => ?_)
        · refine gj_aload_n d_RB_combine_75 rfl ?_
          refine gj_get d_RB_combine_76 gf_RB_110 hy rfl ?_
          refine gj_aload d_RB_combine_79 rfl ?_
          refine gj_get d_RB_combine_81 gf_RB_110 hy2 rfl ?_
          refine gj_iadd d_RB_combine_84 ?_
          refine gj_istore d_RB_combine_85 (by decide) ?_
          refine gj_aload_n d_RB_combine_87 rfl ?_
          refine gj_get d_RB_combine_88 gf_RB_150 hy rfl ?_
          refine gj_aload d_RB_combine_91 rfl ?_
          refine gj_get d_RB_combine_93 gf_RB_150 hy2 rfl ?_
          refine gj_iadd d_RB_combine_96 ?_
          refine gj_istore d_RB_combine_97 (by decide) ?_
          refine gj_iload d_RB_combine_99 rfl ?_
          refine gj_ldc d_RB_combine_101 gw_341 ?_
          refine gj_icmp_gt (tgt := 113) d_RB_combine_103 (by decide) (fun h103 => ?_) (fun h103 => ?_)
          · refine gj_throw2 tk_RB_combine_113 d_RB_combine_113 d_RB_combine_116 d_RB_combine_117 d_RB_combine_119 d_RB_combine_122 rfl (Nat.le_of_ble_eq_true rfl) (by omega) (by omega) ?_
            exact rfl
          · refine gj_iload d_RB_combine_106 rfl ?_
            refine gj_ldc d_RB_combine_108 gw_342 ?_
            refine gj_icmp_le (tgt := 123) d_RB_combine_110 (by decide) (fun h110 => ?_) (fun h110 => ?_)
            · exact absurd ⟨h15, (pc_b0 _).mp h32, (pc_b0 _).mp h40, h62, Int32.not_lt.mp h103, h110⟩ h
            · refine gj_throw2 tk_RB_combine_113 d_RB_combine_113 d_RB_combine_116 d_RB_combine_117 d_RB_combine_119 d_RB_combine_122 rfl (Nat.le_of_ble_eq_true rfl) (by omega) (by omega) ?_
              exact rfl
        · refine gj_throw2 tk_RB_combine_65 d_RB_combine_65 d_RB_combine_68 d_RB_combine_69 d_RB_combine_71 d_RB_combine_74 rfl (Nat.le_of_ble_eq_true rfl) (by omega) (by omega) ?_
          exact rfl
      · refine gj_throw2 tk_RB_combine_43 d_RB_combine_43 d_RB_combine_46 d_RB_combine_47 d_RB_combine_49 d_RB_combine_52 rfl (Nat.le_of_ble_eq_true rfl) (by omega) (by omega) ?_
        exact rfl
  · refine gj_throw2 tk_RB_combine_18 d_RB_combine_18 d_RB_combine_21 d_RB_combine_22 d_RB_combine_24 d_RB_combine_27 rfl (Nat.le_of_ble_eq_true rfl) (by omega) (by omega) ?_
    exact rfl
set_option maxHeartbeats 2000000 in
theorem c_RB_combine {d K N n x q mk y y2 : Nat} {C : Nat → va_E} {sh : Nat → Option Nat} {zo gr vo se ce le zo2 gr2 vo2 se2 ce2 le2 : Int32} (o1 : C (1) = .inr (0, [.ref (2), .ref (x), .ref (q), .ref (23), .int (nI mk), .ref (24), .ref (65), .ref (66)])) (hsh : C (23) = .inl (3, 20, .inr (.inr (.inr (.inr sh))))) (hy : C (y) = .inr (4, [.int (zo), .int (gr), .int (vo), .int (se), .int (ce), .int (le)])) (hy2 : C (y2) = .inr (4, [.int (zo2), .int (gr2), .int (vo2), .int (se2), .int (ce2), .int (le2)])) {s : Int32} {j : Nat} (hj : j < 20) (hp : pr_pn sh s = some y) (hp2 : pr_pn sh (nI j) = some y2) (h : ¬ s = nI j ∧ se = -1 ∧ se2 = -1 ∧ zo = zo2 ∧ gr + gr2 ≤ 100000 ∧ vo + vo2 ≤ 100000000) (hyy : y ≠ y2) (hy9 : 69 < y) (hy92 : 69 < y2) : gj_G md_RB_combine (d + 1) K N 0 0 0 [(0, .ref (1)), (1, .int (s)), (2, .int (nI j))] [] (n) C (fun r => r.1 = gj_iv (gr + gr2) ∧ r.2.1 = n ∧ r.2.2 y = .inr (4, [.int zo, .int (gr + gr2), .int (vo + vo2), .int se, .int ce, .int le]) ∧ r.2.2 23 = .inl (3, 20, .inr (.inr (.inr (.inr (va_up sh j none))))) ∧ ∀ z, z ≠ y → z ≠ 23 → r.2.2 z = C z) := by
  refine gj_aload_n d_RB_combine_0 rfl ?_
  refine gj_iload_n d_RB_combine_1 rfl ?_
  refine gj_callV (as := [.int (s)]) (rest := []) (K1 := 0) (N1 := 0) d_RB_combine_2 mo_RB_present gw_385 gw_387 gw_6 o1 rfl pl_RB_present (Nat.le_of_ble_eq_true rfl) (Nat.le_of_ble_eq_true rfl) (Nat.zero_le _) (Nat.zero_le _) (c_RB_present o1 hsh hp) (fun E n' C' _ h => by cases h) (fun v n' C' _ h => ?_)
  cases h
  refine gj_astore_n d_RB_combine_5 (by decide) ?_
  refine gj_aload_n d_RB_combine_6 rfl ?_
  refine gj_iload_n d_RB_combine_7 rfl ?_
  refine gj_callV (as := [.int (nI j)]) (rest := []) (K1 := 0) (N1 := 0) d_RB_combine_8 mo_RB_present gw_385 gw_387 gw_6 o1 rfl pl_RB_present (Nat.le_of_ble_eq_true rfl) (Nat.le_of_ble_eq_true rfl) (Nat.zero_le _) (Nat.zero_le _) (c_RB_present o1 hsh hp2) (fun E n' C' _ h => by cases h) (fun v n' C' _ h => ?_)
  cases h
  refine gj_astore d_RB_combine_11 (by decide) ?_
  refine gj_iload_n d_RB_combine_13 rfl ?_
  refine gj_iload_n d_RB_combine_14 rfl ?_
  refine gj_icmp_ne (tgt := 28) d_RB_combine_15 (by decide) (fun h15 => ?_) (fun h15 => absurd h15 (h.1))
  refine gj_aload_n d_RB_combine_28 rfl ?_
  refine gj_callV (as := []) (rest := []) (K1 := 0) (N1 := 0) d_RB_combine_29 mo_Sh_isBooked gw_224 gw_225 gw_226 hy rfl pl_Sh_isBooked (Nat.le_of_ble_eq_true rfl) (Nat.le_of_ble_eq_true rfl) (Nat.zero_le _) (Nat.zero_le _) (c_Sh_isBooked hy) (fun E n' C' _ h => by cases h) (fun v n' C' _ h => ?_)
  cases h
  refine gj_if_ne (tgt := 43) d_RB_combine_32 (by decide) (fun h32 => absurd ((pc_b0 _).mpr h.2.1) h32) (fun h32 => ?_)
  refine gj_aload d_RB_combine_35 rfl ?_
  refine gj_callV (as := []) (rest := []) (K1 := 0) (N1 := 0) d_RB_combine_37 mo_Sh_isBooked gw_224 gw_225 gw_226 hy2 rfl pl_Sh_isBooked (Nat.le_of_ble_eq_true rfl) (Nat.le_of_ble_eq_true rfl) (Nat.zero_le _) (Nat.zero_le _) (c_Sh_isBooked hy2) (fun E n' C' _ h => by cases h) (fun v n' C' _ h => ?_)
  cases h
  refine gj_if_eq (tgt := 53) d_RB_combine_40 (by decide) (fun h40 => ?_) (fun h40 => absurd ((pc_b0 _).mpr h.2.2.1) h40)
  refine gj_aload_n d_RB_combine_53 rfl ?_
  refine gj_get d_RB_combine_54 gf_RB_103 hy rfl ?_
  refine gj_aload d_RB_combine_57 rfl ?_
  refine gj_get d_RB_combine_59 gf_RB_103 hy2 rfl ?_
  refine gj_icmp_eq (tgt := 75) d_RB_combine_62 (by decide) (fun h62 => ?_) (fun h62 => absurd (h.2.2.2.1) h62)
  refine gj_aload_n d_RB_combine_75 rfl ?_
  refine gj_get d_RB_combine_76 gf_RB_110 hy rfl ?_
  refine gj_aload d_RB_combine_79 rfl ?_
  refine gj_get d_RB_combine_81 gf_RB_110 hy2 rfl ?_
  refine gj_iadd d_RB_combine_84 ?_
  refine gj_istore d_RB_combine_85 (by decide) ?_
  refine gj_aload_n d_RB_combine_87 rfl ?_
  refine gj_get d_RB_combine_88 gf_RB_150 hy rfl ?_
  refine gj_aload d_RB_combine_91 rfl ?_
  refine gj_get d_RB_combine_93 gf_RB_150 hy2 rfl ?_
  refine gj_iadd d_RB_combine_96 ?_
  refine gj_istore d_RB_combine_97 (by decide) ?_
  refine gj_iload d_RB_combine_99 rfl ?_
  refine gj_ldc d_RB_combine_101 gw_341 ?_
  refine gj_icmp_gt (tgt := 113) d_RB_combine_103 (by decide) (fun h103 => absurd h103 (Int32.not_lt.mpr h.2.2.2.2.1)) (fun h103 => ?_)
  refine gj_iload d_RB_combine_106 rfl ?_
  refine gj_ldc d_RB_combine_108 gw_342 ?_
  refine gj_icmp_le (tgt := 123) d_RB_combine_110 (by decide) (fun h110 => ?_) (fun h110 => absurd (h.2.2.2.2.2) h110)
  refine gj_aload_n d_RB_combine_123 rfl ?_
  refine gj_iload d_RB_combine_124 rfl ?_
  refine gj_put d_RB_combine_126 gp_RB_110 hy (Nat.le_of_ble_eq_true rfl) (fun _ => rfl) (fun _ => rfl) ?_
  obtain ⟨C1, eC1⟩ : ∃ Z0, Z0 = va_up C (y) (.inr (4, [.int (zo), .int ((gr) + (gr2)), .int (vo), .int (se), .int (ce), .int (le)])) := ⟨_, rfl⟩
  refine gj_mem eC1 ?_
  have f2 : C1 (1) = .inr (0, [.ref (2), .ref (x), .ref (q), .ref (23), .int (nI mk), .ref (24), .ref (65), .ref (66)]) := by rw [eC1, va_up_ne _ _ (by omega)]; exact o1
  have f3 : C1 (23) = .inl (3, 20, .inr (.inr (.inr (.inr sh)))) := by rw [eC1, va_up_ne _ _ (by omega)]; exact hsh
  have f4 : C1 (y) = .inr (4, [.int (zo), .int ((gr) + (gr2)), .int (vo), .int (se), .int (ce), .int (le)]) := by rw [eC1]; exact va_up_self _ _ _
  have f5 : C1 (y2) = .inr (4, [.int (zo2), .int (gr2), .int (vo2), .int (se2), .int (ce2), .int (le2)]) := by rw [eC1, va_up_ne _ _ (by omega)]; exact hy2
  refine gj_aload_n d_RB_combine_129 rfl ?_
  refine gj_iload d_RB_combine_130 rfl ?_
  refine gj_put d_RB_combine_132 gp_RB_150 f4 (Nat.le_of_ble_eq_true rfl) (fun _ => rfl) (fun _ => rfl) ?_
  obtain ⟨C6, eC6⟩ : ∃ Z0, Z0 = va_up C1 (y) (.inr (4, [.int (zo), .int ((gr) + (gr2)), .int ((vo) + (vo2)), .int (se), .int (ce), .int (le)])) := ⟨_, rfl⟩
  refine gj_mem eC6 ?_
  have f7 : C6 (1) = .inr (0, [.ref (2), .ref (x), .ref (q), .ref (23), .int (nI mk), .ref (24), .ref (65), .ref (66)]) := by rw [eC6, va_up_ne _ _ (by omega)]; exact f2
  have f8 : C6 (23) = .inl (3, 20, .inr (.inr (.inr (.inr sh)))) := by rw [eC6, va_up_ne _ _ (by omega)]; exact f3
  have f9 : C6 (y) = .inr (4, [.int (zo), .int ((gr) + (gr2)), .int ((vo) + (vo2)), .int (se), .int (ce), .int (le)]) := by rw [eC6]; exact va_up_self _ _ _
  have f10 : C6 (y2) = .inr (4, [.int (zo2), .int (gr2), .int (vo2), .int (se2), .int (ce2), .int (le2)]) := by rw [eC6, va_up_ne _ _ (by omega)]; exact f5
  refine gj_aload_n d_RB_combine_135 rfl ?_
  refine gj_get d_RB_combine_136 gf_RB_28 f7 rfl ?_
  refine gj_iload_n d_RB_combine_139 rfl ?_
  refine gj_null d_RB_combine_140 ?_
  refine gj_aastN d_RB_combine_141 f8 rfl (vp_in_nI (by omega) (by decide)) ?_
  obtain ⟨C11, eC11⟩ : ∃ Z0, Z0 = va_up C6 (23) (.inl (3, 20, .inr (.inr (.inr (.inr (va_up sh (j) none)))))) := ⟨_, rfl⟩
  refine gj_mem (eC11.trans (by rw [nI_clamp (by omega)])) ?_
  have f12 : C11 (1) = .inr (0, [.ref (2), .ref (x), .ref (q), .ref (23), .int (nI mk), .ref (24), .ref (65), .ref (66)]) := by rw [eC11, va_up_ne _ _ (by omega)]; exact f7
  have f13 : C11 (23) = .inl (3, 20, .inr (.inr (.inr (.inr (va_up sh (j) none))))) := by rw [eC11]; exact va_up_self _ _ _
  have f14 : C11 (y) = .inr (4, [.int (zo), .int ((gr) + (gr2)), .int ((vo) + (vo2)), .int (se), .int (ce), .int (le)]) := by rw [eC11, va_up_ne _ _ (by omega)]; exact f9
  have f15 : C11 (y2) = .inr (4, [.int (zo2), .int (gr2), .int (vo2), .int (se2), .int (ce2), .int (le2)]) := by rw [eC11, va_up_ne _ _ (by omega)]; exact f10
  refine gj_iload d_RB_combine_142 rfl ?_
  refine gj_iret rfl (Nat.zero_le _) (Nat.zero_le _) d_RB_combine_144 ?_
  exact ⟨rfl, rfl, f14, f13, fun z a1 a2 => by show C11 z = C z; rw [eC11, va_up_ne _ _ a2, eC6, va_up_ne _ _ a1, eC1, va_up_ne _ _ a1]⟩
set_option maxHeartbeats 2000000 in
theorem c_RB_parcels {d K N n x q mk y : Nat} {C : Nat → va_E} {sh : Nat → Option Nat} {zo gr vo se ce le : Int32} {li sp : Nat} {la ab ut ceR : Nat → Int32} (o1 : C (1) = .inr (0, [.ref (2), .ref (x), .ref (q), .ref (23), .int (nI mk), .ref (24), .ref (65), .ref (66)])) (hsh : C (23) = .inl (3, 20, .inr (.inr (.inr (.inr sh))))) (hy : C (y) = .inr (4, [.int (zo), .int (gr), .int (vo), .int (se), .int (ce), .int (le)])) (hx : C (x) = .inr (2, [.ref (x + 1), .ref (x + 2), .ref (x + 3), .ref (x + 4), .ref (x + 5), .ref (x + 6), .ref (x + 7), .ref (x + 8), .int (nI li), .int (nI sp)])) (hla : C (x + 1) = .inl (0, 60, .inl la)) (hab : C (x + 2) = .inl (0, 60, .inl ab)) (hut : C (x + 3) = .inl (0, 60, .inl ut)) (hce : C (x + 4) = .inl (0, 60, .inl ceR)) {s : Int32} {j : Nat} (hp : pr_pn sh s = some y) (hj : j < 10) (h60 : sp ≤ 60) : gj_G md_RB_parcels (d + 4) K N 0 0 0 [(0, .ref (1)), (1, .int (s)), (2, .int (nI j))] [] (n) C (fun r => r = (gj_iv (pr_lc la ab ut ceR sp (nI j * 10 + zo) 3 0 gr gr), n, C)) := by
  refine gj_aload_n d_RB_parcels_0 rfl ?_
  refine gj_iload_n d_RB_parcels_1 rfl ?_
  refine gj_callV (as := [.int (s)]) (rest := []) (K1 := 0) (N1 := 0) d_RB_parcels_2 mo_RB_present gw_385 gw_387 gw_6 o1 rfl pl_RB_present (Nat.le_of_ble_eq_true rfl) (Nat.le_of_ble_eq_true rfl) (Nat.zero_le _) (Nat.zero_le _) (c_RB_present o1 hsh hp) (fun E n' C' _ h => by cases h) (fun v n' C' _ h => ?_)
  cases h
  refine gj_astore_n d_RB_parcels_5 (by decide) ?_
  refine gj_iload_n d_RB_parcels_6 rfl ?_
  refine gj_callS (as := [.int (nI j)]) (rest := []) (K1 := 0) (N1 := 0) d_RB_parcels_7 mo_RB_needService gw_405 gw_406 gw_20 pl_RB_needService (Nat.le_of_ble_eq_true rfl) (Nat.le_of_ble_eq_true rfl) (Nat.zero_le _) (Nat.zero_le _) (c_RB_needService (pc_svc hj).1 (pc_svc hj).2) (fun E n' C' _ h => by cases h) (fun v n' C' _ h => ?_)
  cases h
  refine gj_iload_n d_RB_parcels_10 rfl ?_
  refine gj_aload_n d_RB_parcels_11 rfl ?_
  refine gj_get d_RB_parcels_12 gf_RB_103 hy rfl ?_
  refine gj_callS (as := [.int (nI j), .int (zo)]) (rest := []) (K1 := 0) (N1 := 0) d_RB_parcels_15 mo_RB_laneOf gw_447 gw_204 gw_20 pl_RB_laneOf (Nat.le_of_ble_eq_true rfl) (Nat.le_of_ble_eq_true rfl) (Nat.zero_le _) (Nat.zero_le _) (c_RB_laneOf (nI j) zo) (fun E n' C' _ h => by cases h) (fun v n' C' _ h => ?_)
  cases h
  refine gj_istore d_RB_parcels_18 (by decide) ?_
  refine gj_aload_n d_RB_parcels_20 rfl ?_
  refine gj_get d_RB_parcels_21 gf_RB_19 o1 rfl ?_
  refine gj_iload d_RB_parcels_24 rfl ?_
  refine gj_kc (v := 3) d_RB_parcels_26 (by decide) ?_
  refine gj_kc (v := 0) d_RB_parcels_27 (by decide) ?_
  refine gj_aload_n d_RB_parcels_28 rfl ?_
  refine gj_get d_RB_parcels_29 gf_RB_110 hy rfl ?_
  refine gj_aload_n d_RB_parcels_32 rfl ?_
  refine gj_get d_RB_parcels_33 gf_RB_110 hy rfl ?_
  refine gj_callV (as := [.int (nI j * 10 + zo), .int (3), .int (0), .int (gr), .int (gr)]) (rest := []) (K1 := 0) (N1 := 0) d_RB_parcels_36 mo_Ra_leastCents gw_478 gw_479 gw_480 hx rfl pl_Ra_leastCents (Nat.le_of_ble_eq_true rfl) (Nat.le_of_ble_eq_true rfl) (Nat.zero_le _) (Nat.zero_le _) (c_Ra_leastCents hx hla hab hut hce h60 3 (by omega) 0 gr gr (Nat.zero_le _)) (fun E n' C' _ h => by cases h) (fun v n' C' _ h => ?_)
  cases h
  refine gj_iret rfl (Nat.zero_le _) (Nat.zero_le _) d_RB_parcels_39 ?_
  exact rfl
