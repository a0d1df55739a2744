/-! the public methods of RateBreaks: first what they refuse -/
set_option maxHeartbeats 2000000 in
theorem c_RB_sign_x1 {d K N n x q mk : Nat} {C : Nat → va_E} (o1 : C (1) = .inr (0, [.ref (2), .ref (x), .ref (q), .ref (23), .int (nI mk), .ref (24), .ref (65), .ref (66)])) (hK : 1 ≤ K) (hN : 6 ≤ N) {c : Int32} (h : ¬ (0 ≤ c ∧ c ≤ 255)) : gj_G md_RB_sign (d + 1) K N 0 0 0 [(0, .ref (1)), (1, .int (c))] [] (n) C (fun r => r = (.inr "java/lang/IllegalArgumentException", n, C)) := by
  refine gj_iload_n d_RB_sign_0 rfl ?_
  refine gj_kc (v := 0) d_RB_sign_1 (by decide) ?_
  refine gj_ks (v := 255) d_RB_sign_2 (by decide) ?_
  refine gj_callS (as := [.int (c), .int (0), .int (255)]) (rest := []) (K1 := 1) (N1 := 6) d_RB_sign_5 mo_RB_needWithin gw_241 gw_242 gw_20 pl_RB_needWithin (Nat.le_of_ble_eq_true rfl) (Nat.le_of_ble_eq_true rfl) (by omega) (by omega) (c_RB_needWithin_x (Nat.le_refl 1) (Nat.le_refl 6) h) (fun E n5 C5 g5 q5 => ?_) (fun v n' C' _ h => by cases h)
  cases q5
  exact gj_xout rfl (by omega) (by omega) rfl
set_option maxHeartbeats 2000000 in
theorem c_RB_sign_x2 {d K N n x q mk : Nat} {C : Nat → va_E} {ln : Nat} {pp : Int32} (o1 : C (1) = .inr (0, [.ref (2), .ref (x), .ref (q), .ref (23), .int (nI mk), .ref (24), .ref (65), .ref (66)])) (o2 : C (2) = .inr (1, [.ref (3), .ref (4), .int (nI ln), .int (pp)])) (hK : 1 ≤ K) (hN : 6 ≤ N) {c : Int32} (h : 0 ≤ c ∧ c ≤ 255) (hl : ¬ ln < 600) (h6 : ln ≤ 600) : gj_G md_RB_sign (d + 1) K N 0 0 0 [(0, .ref (1)), (1, .int (c))] [] (n) C (fun r => r = (.inr "java/lang/UnsupportedOperationException", n, C)) := by
  refine gj_iload_n d_RB_sign_0 rfl ?_
  refine gj_kc (v := 0) d_RB_sign_1 (by decide) ?_
  refine gj_ks (v := 255) d_RB_sign_2 (by decide) ?_
  refine gj_callS (as := [.int (c), .int (0), .int (255)]) (rest := []) (K1 := 0) (N1 := 0) d_RB_sign_5 mo_RB_needWithin gw_241 gw_242 gw_20 pl_RB_needWithin (Nat.le_of_ble_eq_true rfl) (Nat.le_of_ble_eq_true rfl) (Nat.zero_le _) (Nat.zero_le _) (c_RB_needWithin h.1 h.2) (fun E n' C' _ h => by cases h) (fun v n' C' _ h => ?_)
  cases h
  refine gj_aload_n d_RB_sign_8 rfl ?_
  refine gj_get d_RB_sign_9 gf_RB_10 o1 rfl ?_
  refine gj_get d_RB_sign_12 gf_RB_57 o2 rfl ?_
  refine gj_ks (v := 600) d_RB_sign_15 (by decide) ?_
  refine gj_icmp_lt (tgt := 31) d_RB_sign_18 (by decide) (fun h18 => by have m18 : ln < 600 := (nI_ltI (a := ln) (b := 600) (by omega) (by omega)).mp h18; exact absurd m18 (show ¬ (ln < 600) from hl)) (fun h18 => ?_)
  have m18 : ¬ (ln < 600) := fun q => h18 ((nI_ltI (a := ln) (b := 600) (by omega) (by omega)).mpr q)
  refine gj_throw2 tk_RB_sign_21 d_RB_sign_21 d_RB_sign_24 d_RB_sign_25 d_RB_sign_27 d_RB_sign_30 rfl (Nat.le_of_ble_eq_true rfl) (by omega) (by omega) ?_
  exact rfl
set_option maxHeartbeats 2000000 in
theorem c_RB_shipment_x1 {d K N n x q mk : Nat} {C : Nat → va_E} (o1 : C (1) = .inr (0, [.ref (2), .ref (x), .ref (q), .ref (23), .int (nI mk), .ref (24), .ref (65), .ref (66)])) (hK : 1 ≤ K) (hN : 6 ≤ N) {z g v : Int32} (h : ¬ ((0 ≤ z ∧ z ≤ 9) ∧ (1 ≤ g ∧ g ≤ 100000) ∧ (0 ≤ v ∧ v ≤ 100000000))) : gj_G md_RB_shipment (d + 1) K N 0 0 0 [(0, .ref (1)), (1, .int (z)), (2, .int (g)), (3, .int (v))] [] (n) C (fun r => r = (.inr "java/lang/IllegalArgumentException", n, C)) := by
  refine gj_iload_n d_RB_shipment_0 rfl ?_
  refine gj_kc (v := 0) d_RB_shipment_1 (by decide) ?_
  refine gj_kb (v := 9) d_RB_shipment_2 (by decide) ?_
  by_cases a4 : 0 ≤ z ∧ z ≤ 9
  · refine gj_callS (as := [.int (z), .int (0), .int (9)]) (rest := []) (K1 := 0) (N1 := 0) d_RB_shipment_4 mo_RB_needWithin gw_241 gw_242 gw_20 pl_RB_needWithin (Nat.le_of_ble_eq_true rfl) (Nat.le_of_ble_eq_true rfl) (Nat.zero_le _) (Nat.zero_le _) (c_RB_needWithin a4.1 a4.2) (fun E n' C' _ h => by cases h) (fun v n' C' _ h => ?_)
    cases h
    refine gj_iload_n d_RB_shipment_7 rfl ?_
    refine gj_kc (v := 1) d_RB_shipment_8 (by decide) ?_
    refine gj_ldc d_RB_shipment_9 gw_341 ?_
    by_cases a11 : 1 ≤ g ∧ g ≤ 100000
    · refine gj_callS (as := [.int (g), .int (1), .int (100000)]) (rest := []) (K1 := 0) (N1 := 0) d_RB_shipment_11 mo_RB_needWithin gw_241 gw_242 gw_20 pl_RB_needWithin (Nat.le_of_ble_eq_true rfl) (Nat.le_of_ble_eq_true rfl) (Nat.zero_le _) (Nat.zero_le _) (c_RB_needWithin a11.1 a11.2) (fun E n' C' _ h => by cases h) (fun v n' C' _ h => ?_)
      cases h
      refine gj_iload_n d_RB_shipment_14 rfl ?_
      refine gj_kc (v := 0) d_RB_shipment_15 (by decide) ?_
      refine gj_ldc d_RB_shipment_16 gw_342 ?_
      by_cases a18 : 0 ≤ v ∧ v ≤ 100000000
      · refine gj_callS (as := [.int (v), .int (0), .int (100000000)]) (rest := []) (K1 := 0) (N1 := 0) d_RB_shipment_18 mo_RB_needWithin gw_241 gw_242 gw_20 pl_RB_needWithin (Nat.le_of_ble_eq_true rfl) (Nat.le_of_ble_eq_true rfl) (Nat.zero_le _) (Nat.zero_le _) (c_RB_needWithin a18.1 a18.2) (fun E n' C' _ h => by cases h) (fun v n' C' _ h => ?_)
        cases h
        exact absurd ⟨a4, a11, a18⟩ h
      · refine gj_callS (as := [.int (v), .int (0), .int (100000000)]) (rest := []) (K1 := 1) (N1 := 6) d_RB_shipment_18 mo_RB_needWithin gw_241 gw_242 gw_20 pl_RB_needWithin (Nat.le_of_ble_eq_true rfl) (Nat.le_of_ble_eq_true rfl) (by omega) (by omega) (c_RB_needWithin_x (Nat.le_refl 1) (Nat.le_refl 6) a18) (fun E n18 C18 g18 q18 => ?_) (fun v n' C' _ h => by cases h)
        cases q18
        exact gj_xout rfl (by omega) (by omega) rfl
    · refine gj_callS (as := [.int (g), .int (1), .int (100000)]) (rest := []) (K1 := 1) (N1 := 6) d_RB_shipment_11 mo_RB_needWithin gw_241 gw_242 gw_20 pl_RB_needWithin (Nat.le_of_ble_eq_true rfl) (Nat.le_of_ble_eq_true rfl) (by omega) (by omega) (c_RB_needWithin_x (Nat.le_refl 1) (Nat.le_refl 6) a11) (fun E n11 C11 g11 q11 => ?_) (fun v n' C' _ h => by cases h)
      cases q11
      exact gj_xout rfl (by omega) (by omega) rfl
  · refine gj_callS (as := [.int (z), .int (0), .int (9)]) (rest := []) (K1 := 1) (N1 := 6) d_RB_shipment_4 mo_RB_needWithin gw_241 gw_242 gw_20 pl_RB_needWithin (Nat.le_of_ble_eq_true rfl) (Nat.le_of_ble_eq_true rfl) (by omega) (by omega) (c_RB_needWithin_x (Nat.le_refl 1) (Nat.le_refl 6) a4) (fun E n4 C4 g4 q4 => ?_) (fun v n' C' _ h => by cases h)
    cases q4
    exact gj_xout rfl (by omega) (by omega) rfl
set_option maxHeartbeats 2000000 in
theorem c_RB_shipment_x2 {d K N n x q mk : Nat} {C : Nat → va_E} (o1 : C (1) = .inr (0, [.ref (2), .ref (x), .ref (q), .ref (23), .int (nI mk), .ref (24), .ref (65), .ref (66)])) (hK : 1 ≤ K) (hN : 6 ≤ N) {z g v : Int32} (h : (0 ≤ z ∧ z ≤ 9) ∧ (1 ≤ g ∧ g ≤ 100000) ∧ (0 ≤ v ∧ v ≤ 100000000)) (hm : ¬ mk < 20) (h20 : mk ≤ 20) : gj_G md_RB_shipment (d + 1) K N 0 0 0 [(0, .ref (1)), (1, .int (z)), (2, .int (g)), (3, .int (v))] [] (n) C (fun r => r = (.inr "java/lang/UnsupportedOperationException", n, C)) := by
  refine gj_iload_n d_RB_shipment_0 rfl ?_
  refine gj_kc (v := 0) d_RB_shipment_1 (by decide) ?_
  refine gj_kb (v := 9) d_RB_shipment_2 (by decide) ?_
  refine gj_callS (as := [.int (z), .int (0), .int (9)]) (rest := []) (K1 := 0) (N1 := 0) d_RB_shipment_4 mo_RB_needWithin gw_241 gw_242 gw_20 pl_RB_needWithin (Nat.le_of_ble_eq_true rfl) (Nat.le_of_ble_eq_true rfl) (Nat.zero_le _) (Nat.zero_le _) (c_RB_needWithin h.1.1 h.1.2) (fun E n' C' _ h => by cases h) (fun v n' C' _ h => ?_)
  cases h
  refine gj_iload_n d_RB_shipment_7 rfl ?_
  refine gj_kc (v := 1) d_RB_shipment_8 (by decide) ?_
  refine gj_ldc d_RB_shipment_9 gw_341 ?_
  refine gj_callS (as := [.int (g), .int (1), .int (100000)]) (rest := []) (K1 := 0) (N1 := 0) d_RB_shipment_11 mo_RB_needWithin gw_241 gw_242 gw_20 pl_RB_needWithin (Nat.le_of_ble_eq_true rfl) (Nat.le_of_ble_eq_true rfl) (Nat.zero_le _) (Nat.zero_le _) (c_RB_needWithin h.2.1.1 h.2.1.2) (fun E n' C' _ h => by cases h) (fun v n' C' _ h => ?_)
  cases h
  refine gj_iload_n d_RB_shipment_14 rfl ?_
  refine gj_kc (v := 0) d_RB_shipment_15 (by decide) ?_
  refine gj_ldc d_RB_shipment_16 gw_342 ?_
  refine gj_callS (as := [.int (v), .int (0), .int (100000000)]) (rest := []) (K1 := 0) (N1 := 0) d_RB_shipment_18 mo_RB_needWithin gw_241 gw_242 gw_20 pl_RB_needWithin (Nat.le_of_ble_eq_true rfl) (Nat.le_of_ble_eq_true rfl) (Nat.zero_le _) (Nat.zero_le _) (c_RB_needWithin h.2.2.1 h.2.2.2) (fun E n' C' _ h => by cases h) (fun v n' C' _ h => ?_)
  cases h
  refine gj_aload_n d_RB_shipment_21 rfl ?_
  refine gj_get d_RB_shipment_22 gf_RB_32 o1 rfl ?_
  refine gj_kb (v := 20) d_RB_shipment_25 (by decide) ?_
  refine gj_icmp_lt (tgt := 40) d_RB_shipment_27 (by decide) (fun h27 => by have m27 : mk < 20 := (nI_ltI (a := mk) (b := 20) (by omega) (by omega)).mp h27; exact absurd m27 (show ¬ (mk < 20) from hm)) (fun h27 => ?_)
  have m27 : ¬ (mk < 20) := fun q => h27 ((nI_ltI (a := mk) (b := 20) (by omega) (by omega)).mpr q)
  refine gj_throw2 tk_RB_shipment_30 d_RB_shipment_30 d_RB_shipment_33 d_RB_shipment_34 d_RB_shipment_36 d_RB_shipment_39 rfl (Nat.le_of_ble_eq_true rfl) (by omega) (by omega) ?_
  exact rfl
theorem c_RB_weight_x1 {d K N n x q mk : Nat} {C : Nat → va_E} {sh : Nat → Option Nat} (o1 : C (1) = .inr (0, [.ref (2), .ref (x), .ref (q), .ref (23), .int (nI mk), .ref (24), .ref (65), .ref (66)])) (hsh : C (23) = .inl (3, 20, .inr (.inr (.inr (.inr sh))))) (hK : 1 ≤ K) (hN : 6 ≤ N) {s a : Int32} (h : pr_pn sh s = none) : gj_G md_RB_weight (d + 1) K N 0 0 0 [(0, .ref (1)), (1, .int (s)), (2, .int (a))] [] (n) C (fun r => r = (.inr "java/util/NoSuchElementException", n, C)) := by
  refine gj_aload_n d_RB_weight_0 rfl ?_
  refine gj_iload_n d_RB_weight_1 rfl ?_
  refine gj_callV (as := [.int (s)]) (rest := []) (K1 := 1) (N1 := 6) d_RB_weight_2 mo_RB_present gw_385 gw_387 gw_6 o1 rfl pl_RB_present (Nat.le_of_ble_eq_true rfl) (Nat.le_of_ble_eq_true rfl) (by omega) (by omega) (c_RB_present_x o1 hsh (Nat.le_refl 1) (Nat.le_refl 6) h) (fun E n2 C2 g2 q2 => ?_) (fun v n' C' _ h => by cases h)
  cases q2
  exact gj_xout rfl (by omega) (by omega) rfl
theorem c_RB_price_x1 {d K N n x q mk : Nat} {C : Nat → va_E} {sh : Nat → Option Nat} (o1 : C (1) = .inr (0, [.ref (2), .ref (x), .ref (q), .ref (23), .int (nI mk), .ref (24), .ref (65), .ref (66)])) (hsh : C (23) = .inl (3, 20, .inr (.inr (.inr (.inr sh))))) (hK : 1 ≤ K) (hN : 6 ≤ N) {s a : Int32} (h : pr_pn sh s = none) : gj_G md_RB_price (d + 1) K N 0 0 0 [(0, .ref (1)), (1, .int (s)), (2, .int (a))] [] (n) C (fun r => r = (.inr "java/util/NoSuchElementException", n, C)) := by
  refine gj_aload_n d_RB_price_0 rfl ?_
  refine gj_iload_n d_RB_price_1 rfl ?_
  refine gj_callV (as := [.int (s)]) (rest := []) (K1 := 1) (N1 := 6) d_RB_price_2 mo_RB_present gw_385 gw_387 gw_6 o1 rfl pl_RB_present (Nat.le_of_ble_eq_true rfl) (Nat.le_of_ble_eq_true rfl) (by omega) (by omega) (c_RB_present_x o1 hsh (Nat.le_refl 1) (Nat.le_refl 6) h) (fun E n2 C2 g2 q2 => ?_) (fun v n' C' _ h => by cases h)
  cases q2
  exact gj_xout rfl (by omega) (by omega) rfl
theorem c_RB_cheapest_x1 {d K N n x q mk : Nat} {C : Nat → va_E} {sh : Nat → Option Nat} (o1 : C (1) = .inr (0, [.ref (2), .ref (x), .ref (q), .ref (23), .int (nI mk), .ref (24), .ref (65), .ref (66)])) (hsh : C (23) = .inl (3, 20, .inr (.inr (.inr (.inr sh))))) (hK : 1 ≤ K) (hN : 6 ≤ N) {s a : Int32} (h : pr_pn sh s = none) : gj_G md_RB_cheapest (d + 1) K N 0 0 0 [(0, .ref (1)), (1, .int (s))] [] (n) C (fun r => r = (.inr "java/util/NoSuchElementException", n, C)) := by
  refine gj_aload_n d_RB_cheapest_0 rfl ?_
  refine gj_iload_n d_RB_cheapest_1 rfl ?_
  refine gj_callV (as := [.int (s)]) (rest := []) (K1 := 1) (N1 := 6) d_RB_cheapest_2 mo_RB_present gw_385 gw_387 gw_6 o1 rfl pl_RB_present (Nat.le_of_ble_eq_true rfl) (Nat.le_of_ble_eq_true rfl) (by omega) (by omega) (c_RB_present_x o1 hsh (Nat.le_refl 1) (Nat.le_refl 6) h) (fun E n2 C2 g2 q2 => ?_) (fun v n' C' _ h => by cases h)
  cases q2
  exact gj_xout rfl (by omega) (by omega) rfl
theorem c_RB_parcels_x1 {d K N n x q mk : Nat} {C : Nat → va_E} {sh : Nat → Option Nat} (o1 : C (1) = .inr (0, [.ref (2), .ref (x), .ref (q), .ref (23), .int (nI mk), .ref (24), .ref (65), .ref (66)])) (hsh : C (23) = .inl (3, 20, .inr (.inr (.inr (.inr sh))))) (hK : 1 ≤ K) (hN : 6 ≤ N) {s a : Int32} (h : pr_pn sh s = none) : gj_G md_RB_parcels (d + 1) K N 0 0 0 [(0, .ref (1)), (1, .int (s)), (2, .int (a))] [] (n) C (fun r => r = (.inr "java/util/NoSuchElementException", n, C)) := by
  refine gj_aload_n d_RB_parcels_0 rfl ?_
  refine gj_iload_n d_RB_parcels_1 rfl ?_
  refine gj_callV (as := [.int (s)]) (rest := []) (K1 := 1) (N1 := 6) d_RB_parcels_2 mo_RB_present gw_385 gw_387 gw_6 o1 rfl pl_RB_present (Nat.le_of_ble_eq_true rfl) (Nat.le_of_ble_eq_true rfl) (by omega) (by omega) (c_RB_present_x o1 hsh (Nat.le_refl 1) (Nat.le_refl 6) h) (fun E n2 C2 g2 q2 => ?_) (fun v n' C' _ h => by cases h)
  cases q2
  exact gj_xout rfl (by omega) (by omega) rfl
theorem c_RB_book_x1 {d K N n x q mk : Nat} {C : Nat → va_E} {sh : Nat → Option Nat} (o1 : C (1) = .inr (0, [.ref (2), .ref (x), .ref (q), .ref (23), .int (nI mk), .ref (24), .ref (65), .ref (66)])) (hsh : C (23) = .inl (3, 20, .inr (.inr (.inr (.inr sh))))) (hK : 1 ≤ K) (hN : 6 ≤ N) {s a : Int32} (h : pr_pn sh s = none) : gj_G md_RB_book (d + 1) K N 0 0 0 [(0, .ref (1)), (1, .int (s)), (2, .int (a))] [] (n) C (fun r => r = (.inr "java/util/NoSuchElementException", n, C)) := by
  refine gj_aload_n d_RB_book_0 rfl ?_
  refine gj_iload_n d_RB_book_1 rfl ?_
  refine gj_callV (as := [.int (s)]) (rest := []) (K1 := 1) (N1 := 6) d_RB_book_2 mo_RB_present gw_385 gw_387 gw_6 o1 rfl pl_RB_present (Nat.le_of_ble_eq_true rfl) (Nat.le_of_ble_eq_true rfl) (by omega) (by omega) (c_RB_present_x o1 hsh (Nat.le_refl 1) (Nat.le_refl 6) h) (fun E n2 C2 g2 q2 => ?_) (fun v n' C' _ h => by cases h)
  cases q2
  exact gj_xout rfl (by omega) (by omega) rfl
theorem c_RB_combine_x1 {d K N n x q mk : Nat} {C : Nat → va_E} {sh : Nat → Option Nat} (o1 : C (1) = .inr (0, [.ref (2), .ref (x), .ref (q), .ref (23), .int (nI mk), .ref (24), .ref (65), .ref (66)])) (hsh : C (23) = .inl (3, 20, .inr (.inr (.inr (.inr sh))))) (hK : 1 ≤ K) (hN : 6 ≤ N) {s a : Int32} (h : pr_pn sh s = none) : gj_G md_RB_combine (d + 1) K N 0 0 0 [(0, .ref (1)), (1, .int (s)), (2, .int (a))] [] (n) C (fun r => r = (.inr "java/util/NoSuchElementException", n, C)) := by
  refine gj_aload_n d_RB_combine_0 rfl ?_
  refine gj_iload_n d_RB_combine_1 rfl ?_
  refine gj_callV (as := [.int (s)]) (rest := []) (K1 := 1) (N1 := 6) d_RB_combine_2 mo_RB_present gw_385 gw_387 gw_6 o1 rfl pl_RB_present (Nat.le_of_ble_eq_true rfl) (Nat.le_of_ble_eq_true rfl) (by omega) (by omega) (c_RB_present_x o1 hsh (Nat.le_refl 1) (Nat.le_refl 6) h) (fun E n2 C2 g2 q2 => ?_) (fun v n' C' _ h => by cases h)
  cases q2
  exact gj_xout rfl (by omega) (by omega) rfl
theorem c_RB_invoice_x1 {d K N n x q mk : Nat} {C : Nat → va_E} {sh : Nat → Option Nat} (o1 : C (1) = .inr (0, [.ref (2), .ref (x), .ref (q), .ref (23), .int (nI mk), .ref (24), .ref (65), .ref (66)])) (hsh : C (23) = .inl (3, 20, .inr (.inr (.inr (.inr sh))))) (hK : 1 ≤ K) (hN : 6 ≤ N) {s a : Int32} (h : pr_pn sh s = none) : gj_G md_RB_invoice (d + 1) K N 0 0 0 [(0, .ref (1)), (1, .int (s)), (2, .int (a))] [] (n) C (fun r => r = (.inr "java/util/NoSuchElementException", n, C)) := by
  refine gj_aload_n d_RB_invoice_0 rfl ?_
  refine gj_iload_n d_RB_invoice_1 rfl ?_
  refine gj_callV (as := [.int (s)]) (rest := []) (K1 := 1) (N1 := 6) d_RB_invoice_2 mo_RB_present gw_385 gw_387 gw_6 o1 rfl pl_RB_present (Nat.le_of_ble_eq_true rfl) (Nat.le_of_ble_eq_true rfl) (by omega) (by omega) (c_RB_present_x o1 hsh (Nat.le_refl 1) (Nat.le_refl 6) h) (fun E n2 C2 g2 q2 => ?_) (fun v n' C' _ h => by cases h)
  cases q2
  exact gj_xout rfl (by omega) (by omega) rfl
theorem c_RB_refund_x1 {d K N n x q mk : Nat} {C : Nat → va_E} {sh : Nat → Option Nat} (o1 : C (1) = .inr (0, [.ref (2), .ref (x), .ref (q), .ref (23), .int (nI mk), .ref (24), .ref (65), .ref (66)])) (hsh : C (23) = .inl (3, 20, .inr (.inr (.inr (.inr sh))))) (hK : 1 ≤ K) (hN : 6 ≤ N) {s a : Int32} (h : pr_pn sh s = none) : gj_G md_RB_refund (d + 1) K N 0 0 0 [(0, .ref (1)), (1, .int (s)), (2, .int (a))] [] (n) C (fun r => r = (.inr "java/util/NoSuchElementException", n, C)) := by
  refine gj_aload_n d_RB_refund_0 rfl ?_
  refine gj_iload_n d_RB_refund_1 rfl ?_
  refine gj_callV (as := [.int (s)]) (rest := []) (K1 := 1) (N1 := 6) d_RB_refund_2 mo_RB_present gw_385 gw_387 gw_6 o1 rfl pl_RB_present (Nat.le_of_ble_eq_true rfl) (Nat.le_of_ble_eq_true rfl) (by omega) (by omega) (c_RB_present_x o1 hsh (Nat.le_refl 1) (Nat.le_refl 6) h) (fun E n2 C2 g2 q2 => ?_) (fun v n' C' _ h => by cases h)
  cases q2
  exact gj_xout rfl (by omega) (by omega) rfl
theorem c_RB_told_x1 {d K N n x q mk : Nat} {C : Nat → va_E} {sh : Nat → Option Nat} (o1 : C (1) = .inr (0, [.ref (2), .ref (x), .ref (q), .ref (23), .int (nI mk), .ref (24), .ref (65), .ref (66)])) (hsh : C (23) = .inl (3, 20, .inr (.inr (.inr (.inr sh))))) (hK : 1 ≤ K) (hN : 6 ≤ N) {s a : Int32} (h : pr_pn sh s = none) : gj_G md_RB_told (d + 1) K N 0 0 0 [(0, .ref (1)), (1, .int (s)), (2, .int (a))] [] (n) C (fun r => r = (.inr "java/util/NoSuchElementException", n, C)) := by
  refine gj_aload_n d_RB_told_0 rfl ?_
  refine gj_iload_n d_RB_told_1 rfl ?_
  refine gj_callV (as := [.int (s)]) (rest := []) (K1 := 1) (N1 := 6) d_RB_told_2 mo_RB_present gw_385 gw_387 gw_6 o1 rfl pl_RB_present (Nat.le_of_ble_eq_true rfl) (Nat.le_of_ble_eq_true rfl) (by omega) (by omega) (c_RB_present_x o1 hsh (Nat.le_refl 1) (Nat.le_refl 6) h) (fun E n2 C2 g2 q2 => ?_) (fun v n' C' _ h => by cases h)
  cases q2
  exact gj_xout rfl (by omega) (by omega) rfl
set_option maxHeartbeats 2000000 in
theorem c_RB_combine_x1b {d K N n x q mk : Nat} {C : Nat → va_E} {sh : Nat → Option Nat} (o1 : C (1) = .inr (0, [.ref (2), .ref (x), .ref (q), .ref (23), .int (nI mk), .ref (24), .ref (65), .ref (66)])) (hsh : C (23) = .inl (3, 20, .inr (.inr (.inr (.inr sh))))) (hK : 1 ≤ K) (hN : 6 ≤ N) {s a : Int32} {y : Nat} (hp : pr_pn sh s = some y) (h : pr_pn sh a = none) : gj_G md_RB_combine (d + 1) K N 0 0 0 [(0, .ref (1)), (1, .int (s)), (2, .int (a))] [] (n) C (fun r => r = (.inr "java/util/NoSuchElementException", n, C)) := by
  refine gj_aload_n d_RB_combine_0 rfl ?_
  refine gj_iload_n d_RB_combine_1 rfl ?_
  refine gj_callV (as := [.int (s)]) (rest := []) (K1 := 0) (N1 := 0) d_RB_combine_2 mo_RB_present gw_385 gw_387 gw_6 o1 rfl pl_RB_present (Nat.le_of_ble_eq_true rfl) (Nat.le_of_ble_eq_true rfl) (Nat.zero_le _) (Nat.zero_le _) (c_RB_present o1 hsh hp) (fun E n' C' _ h => by cases h) (fun v n' C' _ h => ?_)
  cases h
  refine gj_astore_n d_RB_combine_5 (by decide) ?_
  refine gj_aload_n d_RB_combine_6 rfl ?_
  refine gj_iload_n d_RB_combine_7 rfl ?_
  refine gj_callV (as := [.int (a)]) (rest := []) (K1 := 1) (N1 := 6) d_RB_combine_8 mo_RB_present gw_385 gw_387 gw_6 o1 rfl pl_RB_present (Nat.le_of_ble_eq_true rfl) (Nat.le_of_ble_eq_true rfl) (by omega) (by omega) (c_RB_present_x o1 hsh (Nat.le_refl 1) (Nat.le_refl 6) h) (fun E n8 C8 g8 q8 => ?_) (fun v n' C' _ h => by cases h)
  cases q8
  exact gj_xout rfl (by omega) (by omega) rfl
theorem c_RB_weight_x2 {d K N n x q mk : Nat} {C : Nat → va_E} {sh : Nat → Option Nat} (o1 : C (1) = .inr (0, [.ref (2), .ref (x), .ref (q), .ref (23), .int (nI mk), .ref (24), .ref (65), .ref (66)])) (hsh : C (23) = .inl (3, 20, .inr (.inr (.inr (.inr sh))))) (hK : 1 ≤ K) (hN : 6 ≤ N) {s a : Int32} {y : Nat} (hp : pr_pn sh s = some y) (h : ¬ (0 ≤ a ∧ a < 10)) : gj_G md_RB_weight (d + 1) K N 0 0 0 [(0, .ref (1)), (1, .int (s)), (2, .int (a))] [] (n) C (fun r => r = (.inr "java/lang/IllegalArgumentException", n, C)) := by
  refine gj_aload_n d_RB_weight_0 rfl ?_
  refine gj_iload_n d_RB_weight_1 rfl ?_
  refine gj_callV (as := [.int (s)]) (rest := []) (K1 := 0) (N1 := 0) d_RB_weight_2 mo_RB_present gw_385 gw_387 gw_6 o1 rfl pl_RB_present (Nat.le_of_ble_eq_true rfl) (Nat.le_of_ble_eq_true rfl) (Nat.zero_le _) (Nat.zero_le _) (c_RB_present o1 hsh hp) (fun E n' C' _ h => by cases h) (fun v n' C' _ h => ?_)
  cases h
  refine gj_astore_n d_RB_weight_5 (by decide) ?_
  refine gj_iload_n d_RB_weight_6 rfl ?_
  refine gj_callS (as := [.int (a)]) (rest := []) (K1 := 1) (N1 := 6) d_RB_weight_7 mo_RB_needService gw_405 gw_406 gw_20 pl_RB_needService (Nat.le_of_ble_eq_true rfl) (Nat.le_of_ble_eq_true rfl) (by omega) (by omega) (c_RB_needService_x (Nat.le_refl 1) (Nat.le_refl 6) h) (fun E n7 C7 g7 q7 => ?_) (fun v n' C' _ h => by cases h)
  cases q7
  exact gj_xout rfl (by omega) (by omega) rfl
theorem c_RB_price_x2 {d K N n x q mk : Nat} {C : Nat → va_E} {sh : Nat → Option Nat} (o1 : C (1) = .inr (0, [.ref (2), .ref (x), .ref (q), .ref (23), .int (nI mk), .ref (24), .ref (65), .ref (66)])) (hsh : C (23) = .inl (3, 20, .inr (.inr (.inr (.inr sh))))) (hK : 1 ≤ K) (hN : 6 ≤ N) {s a : Int32} {y : Nat} (hp : pr_pn sh s = some y) (h : ¬ (0 ≤ a ∧ a < 10)) : gj_G md_RB_price (d + 1) K N 0 0 0 [(0, .ref (1)), (1, .int (s)), (2, .int (a))] [] (n) C (fun r => r = (.inr "java/lang/IllegalArgumentException", n, C)) := by
  refine gj_aload_n d_RB_price_0 rfl ?_
  refine gj_iload_n d_RB_price_1 rfl ?_
  refine gj_callV (as := [.int (s)]) (rest := []) (K1 := 0) (N1 := 0) d_RB_price_2 mo_RB_present gw_385 gw_387 gw_6 o1 rfl pl_RB_present (Nat.le_of_ble_eq_true rfl) (Nat.le_of_ble_eq_true rfl) (Nat.zero_le _) (Nat.zero_le _) (c_RB_present o1 hsh hp) (fun E n' C' _ h => by cases h) (fun v n' C' _ h => ?_)
  cases h
  refine gj_astore_n d_RB_price_5 (by decide) ?_
  refine gj_iload_n d_RB_price_6 rfl ?_
  refine gj_callS (as := [.int (a)]) (rest := []) (K1 := 1) (N1 := 6) d_RB_price_7 mo_RB_needService gw_405 gw_406 gw_20 pl_RB_needService (Nat.le_of_ble_eq_true rfl) (Nat.le_of_ble_eq_true rfl) (by omega) (by omega) (c_RB_needService_x (Nat.le_refl 1) (Nat.le_refl 6) h) (fun E n7 C7 g7 q7 => ?_) (fun v n' C' _ h => by cases h)
  cases q7
  exact gj_xout rfl (by omega) (by omega) rfl
theorem c_RB_parcels_x2 {d K N n x q mk : Nat} {C : Nat → va_E} {sh : Nat → Option Nat} (o1 : C (1) = .inr (0, [.ref (2), .ref (x), .ref (q), .ref (23), .int (nI mk), .ref (24), .ref (65), .ref (66)])) (hsh : C (23) = .inl (3, 20, .inr (.inr (.inr (.inr sh))))) (hK : 1 ≤ K) (hN : 6 ≤ N) {s a : Int32} {y : Nat} (hp : pr_pn sh s = some y) (h : ¬ (0 ≤ a ∧ a < 10)) : gj_G md_RB_parcels (d + 1) K N 0 0 0 [(0, .ref (1)), (1, .int (s)), (2, .int (a))] [] (n) C (fun r => r = (.inr "java/lang/IllegalArgumentException", n, C)) := by
  refine gj_aload_n d_RB_parcels_0 rfl ?_
  refine gj_iload_n d_RB_parcels_1 rfl ?_
  refine gj_callV (as := [.int (s)]) (rest := []) (K1 := 0) (N1 := 0) d_RB_parcels_2 mo_RB_present gw_385 gw_387 gw_6 o1 rfl pl_RB_present (Nat.le_of_ble_eq_true rfl) (Nat.le_of_ble_eq_true rfl) (Nat.zero_le _) (Nat.zero_le _) (c_RB_present o1 hsh hp) (fun E n' C' _ h => by cases h) (fun v n' C' _ h => ?_)
  cases h
  refine gj_astore_n d_RB_parcels_5 (by decide) ?_
  refine gj_iload_n d_RB_parcels_6 rfl ?_
  refine gj_callS (as := [.int (a)]) (rest := []) (K1 := 1) (N1 := 6) d_RB_parcels_7 mo_RB_needService gw_405 gw_406 gw_20 pl_RB_needService (Nat.le_of_ble_eq_true rfl) (Nat.le_of_ble_eq_true rfl) (by omega) (by omega) (c_RB_needService_x (Nat.le_refl 1) (Nat.le_refl 6) h) (fun E n7 C7 g7 q7 => ?_) (fun v n' C' _ h => by cases h)
  cases q7
  exact gj_xout rfl (by omega) (by omega) rfl
theorem c_RB_book_x2 {d K N n x q mk : Nat} {C : Nat → va_E} {sh : Nat → Option Nat} (o1 : C (1) = .inr (0, [.ref (2), .ref (x), .ref (q), .ref (23), .int (nI mk), .ref (24), .ref (65), .ref (66)])) (hsh : C (23) = .inl (3, 20, .inr (.inr (.inr (.inr sh))))) (hK : 1 ≤ K) (hN : 6 ≤ N) {s a : Int32} {y : Nat} (hp : pr_pn sh s = some y) (h : ¬ (0 ≤ a ∧ a < 10)) : gj_G md_RB_book (d + 1) K N 0 0 0 [(0, .ref (1)), (1, .int (s)), (2, .int (a))] [] (n) C (fun r => r = (.inr "java/lang/IllegalArgumentException", n, C)) := by
  refine gj_aload_n d_RB_book_0 rfl ?_
  refine gj_iload_n d_RB_book_1 rfl ?_
  refine gj_callV (as := [.int (s)]) (rest := []) (K1 := 0) (N1 := 0) d_RB_book_2 mo_RB_present gw_385 gw_387 gw_6 o1 rfl pl_RB_present (Nat.le_of_ble_eq_true rfl) (Nat.le_of_ble_eq_true rfl) (Nat.zero_le _) (Nat.zero_le _) (c_RB_present o1 hsh hp) (fun E n' C' _ h => by cases h) (fun v n' C' _ h => ?_)
  cases h
  refine gj_astore_n d_RB_book_5 (by decide) ?_
  refine gj_iload_n d_RB_book_6 rfl ?_
  refine gj_callS (as := [.int (a)]) (rest := []) (K1 := 1) (N1 := 6) d_RB_book_7 mo_RB_needService gw_405 gw_406 gw_20 pl_RB_needService (Nat.le_of_ble_eq_true rfl) (Nat.le_of_ble_eq_true rfl) (by omega) (by omega) (c_RB_needService_x (Nat.le_refl 1) (Nat.le_refl 6) h) (fun E n7 C7 g7 q7 => ?_) (fun v n' C' _ h => by cases h)
  cases q7
  exact gj_xout rfl (by omega) (by omega) rfl
theorem c_RB_invoice_x2 {d K N n x q mk : Nat} {C : Nat → va_E} {sh : Nat → Option Nat} (o1 : C (1) = .inr (0, [.ref (2), .ref (x), .ref (q), .ref (23), .int (nI mk), .ref (24), .ref (65), .ref (66)])) (hsh : C (23) = .inl (3, 20, .inr (.inr (.inr (.inr sh))))) (hK : 1 ≤ K) (hN : 6 ≤ N) {s a : Int32} {y : Nat} (hp : pr_pn sh s = some y) (h : ¬ (0 ≤ a ∧ a ≤ 10000000)) : gj_G md_RB_invoice (d + 1) K N 0 0 0 [(0, .ref (1)), (1, .int (s)), (2, .int (a))] [] (n) C (fun r => r = (.inr "java/lang/IllegalArgumentException", n, C)) := by
  refine gj_aload_n d_RB_invoice_0 rfl ?_
  refine gj_iload_n d_RB_invoice_1 rfl ?_
  refine gj_callV (as := [.int (s)]) (rest := []) (K1 := 0) (N1 := 0) d_RB_invoice_2 mo_RB_present gw_385 gw_387 gw_6 o1 rfl pl_RB_present (Nat.le_of_ble_eq_true rfl) (Nat.le_of_ble_eq_true rfl) (Nat.zero_le _) (Nat.zero_le _) (c_RB_present o1 hsh hp) (fun E n' C' _ h => by cases h) (fun v n' C' _ h => ?_)
  cases h
  refine gj_astore_n d_RB_invoice_5 (by decide) ?_
  refine gj_iload_n d_RB_invoice_6 rfl ?_
  refine gj_kc (v := 0) d_RB_invoice_7 (by decide) ?_
  refine gj_ldc d_RB_invoice_8 gw_549 ?_
  refine gj_callS (as := [.int (a), .int (0), .int (10000000)]) (rest := []) (K1 := 1) (N1 := 6) d_RB_invoice_10 mo_RB_needWithin gw_241 gw_242 gw_20 pl_RB_needWithin (Nat.le_of_ble_eq_true rfl) (Nat.le_of_ble_eq_true rfl) (by omega) (by omega) (c_RB_needWithin_x (Nat.le_refl 1) (Nat.le_refl 6) h) (fun E n10 C10 g10 q10 => ?_) (fun v n' C' _ h => by cases h)
  cases q10
  exact gj_xout rfl (by omega) (by omega) rfl
theorem c_RB_refund_x2 {d K N n x q mk : Nat} {C : Nat → va_E} {sh : Nat → Option Nat} (o1 : C (1) = .inr (0, [.ref (2), .ref (x), .ref (q), .ref (23), .int (nI mk), .ref (24), .ref (65), .ref (66)])) (hsh : C (23) = .inl (3, 20, .inr (.inr (.inr (.inr sh))))) (hK : 1 ≤ K) (hN : 6 ≤ N) {s a : Int32} {y : Nat} (hp : pr_pn sh s = some y) (h : ¬ (1 ≤ a ∧ a ≤ 10000000)) : gj_G md_RB_refund (d + 1) K N 0 0 0 [(0, .ref (1)), (1, .int (s)), (2, .int (a))] [] (n) C (fun r => r = (.inr "java/lang/IllegalArgumentException", n, C)) := by
  refine gj_aload_n d_RB_refund_0 rfl ?_
  refine gj_iload_n d_RB_refund_1 rfl ?_
  refine gj_callV (as := [.int (s)]) (rest := []) (K1 := 0) (N1 := 0) d_RB_refund_2 mo_RB_present gw_385 gw_387 gw_6 o1 rfl pl_RB_present (Nat.le_of_ble_eq_true rfl) (Nat.le_of_ble_eq_true rfl) (Nat.zero_le _) (Nat.zero_le _) (c_RB_present o1 hsh hp) (fun E n' C' _ h => by cases h) (fun v n' C' _ h => ?_)
  cases h
  refine gj_astore_n d_RB_refund_5 (by decide) ?_
  refine gj_iload_n d_RB_refund_6 rfl ?_
  refine gj_kc (v := 1) d_RB_refund_7 (by decide) ?_
  refine gj_ldc d_RB_refund_8 gw_549 ?_
  refine gj_callS (as := [.int (a), .int (1), .int (10000000)]) (rest := []) (K1 := 1) (N1 := 6) d_RB_refund_10 mo_RB_needWithin gw_241 gw_242 gw_20 pl_RB_needWithin (Nat.le_of_ble_eq_true rfl) (Nat.le_of_ble_eq_true rfl) (by omega) (by omega) (c_RB_needWithin_x (Nat.le_refl 1) (Nat.le_refl 6) h) (fun E n10 C10 g10 q10 => ?_) (fun v n' C' _ h => by cases h)
  cases q10
  exact gj_xout rfl (by omega) (by omega) rfl
set_option maxHeartbeats 2000000 in
theorem c_RB_contract_x1 {d K N n x q mk : Nat} {C : Nat → va_E} (o1 : C (1) = .inr (0, [.ref (2), .ref (x), .ref (q), .ref (23), .int (nI mk), .ref (24), .ref (65), .ref (66)])) (hK : 1 ≤ K) (hN : 6 ≤ N) {a fm u dw : Int32} (h : ¬ ((0 ≤ a ∧ a < 10) ∧ (0 ≤ fm ∧ fm ≤ 100) ∧ (1 ≤ dw ∧ dw ≤ 1000) ∧ (0 ≤ u ∧ u ≤ dw))) : gj_G md_RB_contract (d + 1) K N 0 0 0 [(0, .ref (1)), (1, .int (a)), (2, .int (fm)), (3, .int (u)), (4, .int (dw))] [] (n) C (fun r => r = (.inr "java/lang/IllegalArgumentException", n, C)) := by
  refine gj_iload_n d_RB_contract_0 rfl ?_
  by_cases a1 : 0 ≤ a ∧ a < 10
  · refine gj_callS (as := [.int (a)]) (rest := []) (K1 := 0) (N1 := 0) d_RB_contract_1 mo_RB_needService gw_405 gw_406 gw_20 pl_RB_needService (Nat.le_of_ble_eq_true rfl) (Nat.le_of_ble_eq_true rfl) (Nat.zero_le _) (Nat.zero_le _) (c_RB_needService a1.1 a1.2) (fun E n' C' _ h => by cases h) (fun v n' C' _ h => ?_)
    cases h
    refine gj_iload_n d_RB_contract_4 rfl ?_
    refine gj_kc (v := 0) d_RB_contract_5 (by decide) ?_
    refine gj_kb (v := 100) d_RB_contract_6 (by decide) ?_
    by_cases a8 : 0 ≤ fm ∧ fm ≤ 100
    · refine gj_callS (as := [.int (fm), .int (0), .int (100)]) (rest := []) (K1 := 0) (N1 := 0) d_RB_contract_8 mo_RB_needWithin gw_241 gw_242 gw_20 pl_RB_needWithin (Nat.le_of_ble_eq_true rfl) (Nat.le_of_ble_eq_true rfl) (Nat.zero_le _) (Nat.zero_le _) (c_RB_needWithin a8.1 a8.2) (fun E n' C' _ h => by cases h) (fun v n' C' _ h => ?_)
      cases h
      refine gj_iload d_RB_contract_11 rfl ?_
      refine gj_kc (v := 1) d_RB_contract_13 (by decide) ?_
      refine gj_ks (v := 1000) d_RB_contract_14 (by decide) ?_
      by_cases a17 : 1 ≤ dw ∧ dw ≤ 1000
      · refine gj_callS (as := [.int (dw), .int (1), .int (1000)]) (rest := []) (K1 := 0) (N1 := 0) d_RB_contract_17 mo_RB_needWithin gw_241 gw_242 gw_20 pl_RB_needWithin (Nat.le_of_ble_eq_true rfl) (Nat.le_of_ble_eq_true rfl) (Nat.zero_le _) (Nat.zero_le _) (c_RB_needWithin a17.1 a17.2) (fun E n' C' _ h => by cases h) (fun v n' C' _ h => ?_)
        cases h
        refine gj_iload_n d_RB_contract_20 rfl ?_
        refine gj_kc (v := 0) d_RB_contract_21 (by decide) ?_
        refine gj_iload d_RB_contract_22 rfl ?_
        by_cases a24 : 0 ≤ u ∧ u ≤ dw
        · refine gj_callS (as := [.int (u), .int (0), .int (dw)]) (rest := []) (K1 := 0) (N1 := 0) d_RB_contract_24 mo_RB_needWithin gw_241 gw_242 gw_20 pl_RB_needWithin (Nat.le_of_ble_eq_true rfl) (Nat.le_of_ble_eq_true rfl) (Nat.zero_le _) (Nat.zero_le _) (c_RB_needWithin a24.1 a24.2) (fun E n' C' _ h => by cases h) (fun v n' C' _ h => ?_)
          cases h
          exact absurd ⟨a1, a8, a17, a24⟩ h
        · refine gj_callS (as := [.int (u), .int (0), .int (dw)]) (rest := []) (K1 := 1) (N1 := 6) d_RB_contract_24 mo_RB_needWithin gw_241 gw_242 gw_20 pl_RB_needWithin (Nat.le_of_ble_eq_true rfl) (Nat.le_of_ble_eq_true rfl) (by omega) (by omega) (c_RB_needWithin_x (Nat.le_refl 1) (Nat.le_refl 6) a24) (fun E n24 C24 g24 q24 => ?_) (fun v n' C' _ h => by cases h)
          cases q24
          exact gj_xout rfl (by omega) (by omega) rfl
      · refine gj_callS (as := [.int (dw), .int (1), .int (1000)]) (rest := []) (K1 := 1) (N1 := 6) d_RB_contract_17 mo_RB_needWithin gw_241 gw_242 gw_20 pl_RB_needWithin (Nat.le_of_ble_eq_true rfl) (Nat.le_of_ble_eq_true rfl) (by omega) (by omega) (c_RB_needWithin_x (Nat.le_refl 1) (Nat.le_refl 6) a17) (fun E n17 C17 g17 q17 => ?_) (fun v n' C' _ h => by cases h)
        cases q17
        exact gj_xout rfl (by omega) (by omega) rfl
    · refine gj_callS (as := [.int (fm), .int (0), .int (100)]) (rest := []) (K1 := 1) (N1 := 6) d_RB_contract_8 mo_RB_needWithin gw_241 gw_242 gw_20 pl_RB_needWithin (Nat.le_of_ble_eq_true rfl) (Nat.le_of_ble_eq_true rfl) (by omega) (by omega) (c_RB_needWithin_x (Nat.le_refl 1) (Nat.le_refl 6) a8) (fun E n8 C8 g8 q8 => ?_) (fun v n' C' _ h => by cases h)
      cases q8
      exact gj_xout rfl (by omega) (by omega) rfl
  · refine gj_callS (as := [.int (a)]) (rest := []) (K1 := 1) (N1 := 6) d_RB_contract_1 mo_RB_needService gw_405 gw_406 gw_20 pl_RB_needService (Nat.le_of_ble_eq_true rfl) (Nat.le_of_ble_eq_true rfl) (by omega) (by omega) (c_RB_needService_x (Nat.le_refl 1) (Nat.le_refl 6) a1) (fun E n1 C1 g1 q1 => ?_) (fun v n' C' _ h => by cases h)
    cases q1
    exact gj_xout rfl (by omega) (by omega) rfl
set_option maxHeartbeats 2000000 in
theorem c_RB_currency_x1 {d K N n x q mk : Nat} {C : Nat → va_E} (o1 : C (1) = .inr (0, [.ref (2), .ref (x), .ref (q), .ref (23), .int (nI mk), .ref (24), .ref (65), .ref (66)])) (hK : 1 ≤ K) (hN : 6 ≤ N) {dy u dw : Int32} (h : ¬ ((0 ≤ dy ∧ dy ≤ 10000) ∧ (1 ≤ u ∧ u ≤ 100000) ∧ (1 ≤ dw ∧ dw ≤ 100000))) : gj_G md_RB_currency (d + 1) K N 0 0 0 [(0, .ref (1)), (1, .int (dy)), (2, .int (u)), (3, .int (dw))] [] (n) C (fun r => r = (.inr "java/lang/IllegalArgumentException", n, C)) := by
  refine gj_iload_n d_RB_currency_0 rfl ?_
  refine gj_kc (v := 0) d_RB_currency_1 (by decide) ?_
  refine gj_ks (v := 10000) d_RB_currency_2 (by decide) ?_
  by_cases a5 : 0 ≤ dy ∧ dy ≤ 10000
  · refine gj_callS (as := [.int (dy), .int (0), .int (10000)]) (rest := []) (K1 := 0) (N1 := 0) d_RB_currency_5 mo_RB_needWithin gw_241 gw_242 gw_20 pl_RB_needWithin (Nat.le_of_ble_eq_true rfl) (Nat.le_of_ble_eq_true rfl) (Nat.zero_le _) (Nat.zero_le _) (c_RB_needWithin a5.1 a5.2) (fun E n' C' _ h => by cases h) (fun v n' C' _ h => ?_)
    cases h
    refine gj_iload_n d_RB_currency_8 rfl ?_
    refine gj_kc (v := 1) d_RB_currency_9 (by decide) ?_
    refine gj_ldc d_RB_currency_10 gw_341 ?_
    by_cases a12 : 1 ≤ u ∧ u ≤ 100000
    · refine gj_callS (as := [.int (u), .int (1), .int (100000)]) (rest := []) (K1 := 0) (N1 := 0) d_RB_currency_12 mo_RB_needWithin gw_241 gw_242 gw_20 pl_RB_needWithin (Nat.le_of_ble_eq_true rfl) (Nat.le_of_ble_eq_true rfl) (Nat.zero_le _) (Nat.zero_le _) (c_RB_needWithin a12.1 a12.2) (fun E n' C' _ h => by cases h) (fun v n' C' _ h => ?_)
      cases h
      refine gj_iload_n d_RB_currency_15 rfl ?_
      refine gj_kc (v := 1) d_RB_currency_16 (by decide) ?_
      refine gj_ldc d_RB_currency_17 gw_341 ?_
      by_cases a19 : 1 ≤ dw ∧ dw ≤ 100000
      · refine gj_callS (as := [.int (dw), .int (1), .int (100000)]) (rest := []) (K1 := 0) (N1 := 0) d_RB_currency_19 mo_RB_needWithin gw_241 gw_242 gw_20 pl_RB_needWithin (Nat.le_of_ble_eq_true rfl) (Nat.le_of_ble_eq_true rfl) (Nat.zero_le _) (Nat.zero_le _) (c_RB_needWithin a19.1 a19.2) (fun E n' C' _ h => by cases h) (fun v n' C' _ h => ?_)
        cases h
        exact absurd ⟨a5, a12, a19⟩ h
      · refine gj_callS (as := [.int (dw), .int (1), .int (100000)]) (rest := []) (K1 := 1) (N1 := 6) d_RB_currency_19 mo_RB_needWithin gw_241 gw_242 gw_20 pl_RB_needWithin (Nat.le_of_ble_eq_true rfl) (Nat.le_of_ble_eq_true rfl) (by omega) (by omega) (c_RB_needWithin_x (Nat.le_refl 1) (Nat.le_refl 6) a19) (fun E n19 C19 g19 q19 => ?_) (fun v n' C' _ h => by cases h)
        cases q19
        exact gj_xout rfl (by omega) (by omega) rfl
    · refine gj_callS (as := [.int (u), .int (1), .int (100000)]) (rest := []) (K1 := 1) (N1 := 6) d_RB_currency_12 mo_RB_needWithin gw_241 gw_242 gw_20 pl_RB_needWithin (Nat.le_of_ble_eq_true rfl) (Nat.le_of_ble_eq_true rfl) (by omega) (by omega) (c_RB_needWithin_x (Nat.le_refl 1) (Nat.le_refl 6) a12) (fun E n12 C12 g12 q12 => ?_) (fun v n' C' _ h => by cases h)
      cases q12
      exact gj_xout rfl (by omega) (by omega) rfl
  · refine gj_callS (as := [.int (dy), .int (0), .int (10000)]) (rest := []) (K1 := 1) (N1 := 6) d_RB_currency_5 mo_RB_needWithin gw_241 gw_242 gw_20 pl_RB_needWithin (Nat.le_of_ble_eq_true rfl) (Nat.le_of_ble_eq_true rfl) (by omega) (by omega) (c_RB_needWithin_x (Nat.le_refl 1) (Nat.le_refl 6) a5) (fun E n5 C5 g5 q5 => ?_) (fun v n' C' _ h => by cases h)
    cases q5
    exact gj_xout rfl (by omega) (by omega) rfl
set_option maxHeartbeats 2000000 in
theorem c_RB_converted_x1 {d K N n x q mk : Nat} {C : Nat → va_E} (o1 : C (1) = .inr (0, [.ref (2), .ref (x), .ref (q), .ref (23), .int (nI mk), .ref (24), .ref (65), .ref (66)])) (hK : 1 ≤ K) (hN : 6 ≤ N) {ct dy : Int32} (h : ¬ ((0 ≤ ct ∧ ct ≤ 10000000) ∧ (0 ≤ dy ∧ dy ≤ 10000))) : gj_G md_RB_converted (d + 1) K N 0 0 0 [(0, .ref (1)), (1, .int (ct)), (2, .int (dy))] [] (n) C (fun r => r = (.inr "java/lang/IllegalArgumentException", n, C)) := by
  refine gj_iload_n d_RB_converted_0 rfl ?_
  refine gj_kc (v := 0) d_RB_converted_1 (by decide) ?_
  refine gj_ldc d_RB_converted_2 gw_549 ?_
  by_cases a4 : 0 ≤ ct ∧ ct ≤ 10000000
  · refine gj_callS (as := [.int (ct), .int (0), .int (10000000)]) (rest := []) (K1 := 0) (N1 := 0) d_RB_converted_4 mo_RB_needWithin gw_241 gw_242 gw_20 pl_RB_needWithin (Nat.le_of_ble_eq_true rfl) (Nat.le_of_ble_eq_true rfl) (Nat.zero_le _) (Nat.zero_le _) (c_RB_needWithin a4.1 a4.2) (fun E n' C' _ h => by cases h) (fun v n' C' _ h => ?_)
    cases h
    refine gj_iload_n d_RB_converted_7 rfl ?_
    refine gj_kc (v := 0) d_RB_converted_8 (by decide) ?_
    refine gj_ks (v := 10000) d_RB_converted_9 (by decide) ?_
    by_cases a12 : 0 ≤ dy ∧ dy ≤ 10000
    · refine gj_callS (as := [.int (dy), .int (0), .int (10000)]) (rest := []) (K1 := 0) (N1 := 0) d_RB_converted_12 mo_RB_needWithin gw_241 gw_242 gw_20 pl_RB_needWithin (Nat.le_of_ble_eq_true rfl) (Nat.le_of_ble_eq_true rfl) (Nat.zero_le _) (Nat.zero_le _) (c_RB_needWithin a12.1 a12.2) (fun E n' C' _ h => by cases h) (fun v n' C' _ h => ?_)
      cases h
      exact absurd ⟨a4, a12⟩ h
    · refine gj_callS (as := [.int (dy), .int (0), .int (10000)]) (rest := []) (K1 := 1) (N1 := 6) d_RB_converted_12 mo_RB_needWithin gw_241 gw_242 gw_20 pl_RB_needWithin (Nat.le_of_ble_eq_true rfl) (Nat.le_of_ble_eq_true rfl) (by omega) (by omega) (c_RB_needWithin_x (Nat.le_refl 1) (Nat.le_refl 6) a12) (fun E n12 C12 g12 q12 => ?_) (fun v n' C' _ h => by cases h)
      cases q12
      exact gj_xout rfl (by omega) (by omega) rfl
  · refine gj_callS (as := [.int (ct), .int (0), .int (10000000)]) (rest := []) (K1 := 1) (N1 := 6) d_RB_converted_4 mo_RB_needWithin gw_241 gw_242 gw_20 pl_RB_needWithin (Nat.le_of_ble_eq_true rfl) (Nat.le_of_ble_eq_true rfl) (by omega) (by omega) (c_RB_needWithin_x (Nat.le_refl 1) (Nat.le_refl 6) a4) (fun E n4 C4 g4 q4 => ?_) (fun v n' C' _ h => by cases h)
    cases q4
    exact gj_xout rfl (by omega) (by omega) rfl
set_option maxHeartbeats 2000000 in
theorem c_RB_differ_x1 {d K N n x q mk : Nat} {C : Nat → va_E} (o1 : C (1) = .inr (0, [.ref (2), .ref (x), .ref (q), .ref (23), .int (nI mk), .ref (24), .ref (65), .ref (66)])) (hK : 1 ≤ K) (hN : 6 ≤ N) {i : Int32} (h : i < 0) : gj_G md_RB_differ (d) K N 0 0 0 [(0, .ref (1)), (1, .int (i))] [] (n) C (fun r => r = (.inr "java/lang/IllegalArgumentException", n, C)) := by
  refine gj_iload_n d_RB_differ_0 rfl ?_
  refine gj_if_ge (tgt := 14) d_RB_differ_1 (by decide) (fun h1 => absurd h1 (Int32.not_le.mpr h)) (fun h1 => ?_)
  refine gj_throw2 tk_RB_differ_4 d_RB_differ_4 d_RB_differ_7 d_RB_differ_8 d_RB_differ_10 d_RB_differ_13 rfl (Nat.le_of_ble_eq_true rfl) (by omega) (by omega) ?_
  exact rfl
def pc_td (zo gr vo se ce le w : Int32) : Int32 := if w = 0 then zo else if w = 1 then gr else if w = 2 then vo else if w = 3 then se else if w = 4 then ce else le
set_option maxHeartbeats 2000000 in
theorem c_RB_told {d K N n x q mk y : Nat} {C : Nat → va_E} {sh : Nat → Option Nat} {zo gr vo se ce le : Int32} (o1 : C (1) = .inr (0, [.ref (2), .ref (x), .ref (q), .ref (23), .int (nI mk), .ref (24), .ref (65), .ref (66)])) (hsh : C (23) = .inl (3, 20, .inr (.inr (.inr (.inr sh))))) (hy : C (y) = .inr (4, [.int (zo), .int (gr), .int (vo), .int (se), .int (ce), .int (le)])) (hK : 1 ≤ K) (hN : 6 ≤ N) {s w : Int32} (hp : pr_pn sh s = some y) : gj_G md_RB_told (d + 1) K N 0 0 0 [(0, .ref (1)), (1, .int (s)), (2, .int (w))] [] (n) C (fun r => (0 ≤ w ∧ w ≤ 5 → r = (gj_iv (pc_td zo gr vo se ce le w), n, C)) ∧ (¬ (0 ≤ w ∧ w ≤ 5) → r = (.inr "java/lang/IllegalArgumentException", n, C))) := by
  refine gj_aload_n d_RB_told_0 rfl ?_
  refine gj_iload_n d_RB_told_1 rfl ?_
  refine gj_callV (as := [.int (s)]) (rest := []) (K1 := 0) (N1 := 0) d_RB_told_2 mo_RB_present gw_385 gw_387 gw_6 o1 rfl pl_RB_present (Nat.le_of_ble_eq_true rfl) (Nat.le_of_ble_eq_true rfl) (Nat.zero_le _) (Nat.zero_le _) (c_RB_present o1 hsh hp) (fun E n' C' _ h => by cases h) (fun v n' C' _ h => ?_)
  cases h
  refine gj_astore_n d_RB_told_5 (by decide) ?_
  refine gj_iload_n d_RB_told_6 rfl ?_
  -- switch
  by_cases s7_0 : w = 0
  · refine gj_tableIn (off := 37) (tgt := 44) d_RB_told_7 (by rw [s7_0]; decide) (by rw [s7_0]; decide) (by rw [s7_0]; decide) (by decide) ?_
    refine gj_aload_n d_RB_told_44 rfl ?_
    refine gj_get d_RB_told_45 gf_RB_103 hy rfl ?_
    refine gj_iret rfl (Nat.zero_le _) (Nat.zero_le _) d_RB_told_48 ?_
    subst s7_0
    exact ⟨fun _ => rfl, fun q => absurd ⟨by decide, by decide⟩ q⟩
  · by_cases s7_1 : w = 1
    · refine gj_tableIn (off := 42) (tgt := 49) d_RB_told_7 (by rw [s7_1]; decide) (by rw [s7_1]; decide) (by rw [s7_1]; decide) (by decide) ?_
      refine gj_aload_n d_RB_told_49 rfl ?_
      refine gj_get d_RB_told_50 gf_RB_110 hy rfl ?_
      refine gj_iret rfl (Nat.zero_le _) (Nat.zero_le _) d_RB_told_53 ?_
      subst s7_1
      exact ⟨fun _ => rfl, fun q => absurd ⟨by decide, by decide⟩ q⟩
    · by_cases s7_2 : w = 2
      · refine gj_tableIn (off := 47) (tgt := 54) d_RB_told_7 (by rw [s7_2]; decide) (by rw [s7_2]; decide) (by rw [s7_2]; decide) (by decide) ?_
        refine gj_aload_n d_RB_told_54 rfl ?_
        refine gj_get d_RB_told_55 gf_RB_150 hy rfl ?_
        refine gj_iret rfl (Nat.zero_le _) (Nat.zero_le _) d_RB_told_58 ?_
        subst s7_2
        exact ⟨fun _ => rfl, fun q => absurd ⟨by decide, by decide⟩ q⟩
      · by_cases s7_3 : w = 3
        · refine gj_tableIn (off := 52) (tgt := 59) d_RB_told_7 (by rw [s7_3]; decide) (by rw [s7_3]; decide) (by rw [s7_3]; decide) (by decide) ?_
          refine gj_aload_n d_RB_told_59 rfl ?_
          refine gj_get d_RB_told_60 gf_RB_138 hy rfl ?_
          refine gj_iret rfl (Nat.zero_le _) (Nat.zero_le _) d_RB_told_63 ?_
          subst s7_3
          exact ⟨fun _ => rfl, fun q => absurd ⟨by decide, by decide⟩ q⟩
        · by_cases s7_4 : w = 4
          · refine gj_tableIn (off := 57) (tgt := 64) d_RB_told_7 (by rw [s7_4]; decide) (by rw [s7_4]; decide) (by rw [s7_4]; decide) (by decide) ?_
            refine gj_aload_n d_RB_told_64 rfl ?_
            refine gj_get d_RB_told_65 gf_RB_141 hy rfl ?_
            refine gj_iret rfl (Nat.zero_le _) (Nat.zero_le _) d_RB_told_68 ?_
            subst s7_4
            exact ⟨fun _ => rfl, fun q => absurd ⟨by decide, by decide⟩ q⟩
          · by_cases s7_5 : w = 5
            · refine gj_tableIn (off := 62) (tgt := 69) d_RB_told_7 (by rw [s7_5]; decide) (by rw [s7_5]; decide) (by rw [s7_5]; decide) (by decide) ?_
              refine gj_aload_n d_RB_told_69 rfl ?_
              refine gj_get d_RB_told_70 gf_RB_161 hy rfl ?_
              refine gj_iret rfl (Nat.zero_le _) (Nat.zero_le _) d_RB_told_73 ?_
              subst s7_5
              exact ⟨fun _ => rfl, fun q => absurd ⟨by decide, by decide⟩ q⟩
            · have a7_0 : ¬ (w : Int32).toInt = 0 := fun h => s7_0 (Int32.toInt_inj.mp (h.trans (by decide)))
              have a7_1 : ¬ (w : Int32).toInt = 1 := fun h => s7_1 (Int32.toInt_inj.mp (h.trans (by decide)))
              have a7_2 : ¬ (w : Int32).toInt = 2 := fun h => s7_2 (Int32.toInt_inj.mp (h.trans (by decide)))
              have a7_3 : ¬ (w : Int32).toInt = 3 := fun h => s7_3 (Int32.toInt_inj.mp (h.trans (by decide)))
              have a7_4 : ¬ (w : Int32).toInt = 4 := fun h => s7_4 (Int32.toInt_inj.mp (h.trans (by decide)))
              have a7_5 : ¬ (w : Int32).toInt = 5 := fun h => s7_5 (Int32.toInt_inj.mp (h.trans (by decide)))
              refine gj_tableOut (tgt := 74) d_RB_told_7 (by omega) (by decide) ?_
              refine gj_throw2 tk_RB_told_74 d_RB_told_74 d_RB_told_77 d_RB_told_78 d_RB_told_80 d_RB_told_83 rfl (Nat.le_of_ble_eq_true rfl) (by omega) (by omega) ?_
              refine ⟨fun q => ?_, fun _ => rfl⟩
              have b1 := Int32.le_iff_toInt_le.mp q.1
              have b2 := Int32.le_iff_toInt_le.mp q.2
              have b3 : (0 : Int32).toInt = 0 := by decide
              have b4 : (5 : Int32).toInt = 5 := by decide
              exfalso
              omega
