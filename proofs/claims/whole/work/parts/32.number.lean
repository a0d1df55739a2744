section
variable {md : gj_M} {d K N k w pc : Nat} {lc : List (Nat × Value)} {st : List Value} {n : Nat} {C : Nat → va_E} {Q : gj_R → Prop}
theorem gj_top {x y : Int32} (h : x = y) (kk : gj_G md d K N k w pc lc (.int y :: st) n C Q) : gj_G md d K N k w pc lc (.int x :: st) n C Q := h ▸ kk
end
def pt_isd (c : Int32) : Prop := 48 ≤ c ∧ c ≤ 57
/-- digits from q on, at most m; and the number that they make, behind v -/
noncomputable def pt_nd (f : Nat → Int32) (ln : Nat) : Nat → Nat → Nat
  | _, 0 => 0
  | q, m + 1 => if 48 ≤ pt_at f ln q ∧ pt_at f ln q ≤ 57 then 1 + pt_nd f ln (q + 1) m else 0
noncomputable def pt_vl (f : Nat → Int32) (ln : Nat) : Nat → Int32 → Nat → Int32
  | _, v, 0 => v
  | q, v, m + 1 => if 48 ≤ pt_at f ln q ∧ pt_at f ln q ≤ 57 then pt_vl f ln (q + 1) (v * 10 + (pt_at f ln q - 48)) m else v
set_option maxHeartbeats 1000000 in
theorem c_Tx_takeNumber_loop {d K N n x ln p : Nat} {C : Nat → va_E} {f : Nat → Int32} {Q : gj_R → Prop} (hx : C x = .inr (1, [.ref (x + 1), .ref (x + 2), .int (nI ln), .int (nI p)])) (hs : C (x + 1) = .inl (0, 600, .inl f)) (h6 : ln ≤ 600) (hp : p ≤ 700) : ∀ (m k : Nat) (v : Int32), k + m = 9 →
    (∀ (k2 : Nat) (v2 : Int32), k2 = k + pt_nd f ln (p + 1 + k) m → v2 = pt_vl f ln (p + 1 + k) v m → gj_G md_Tx_takeNumber (d + 1) K N 0 0 67 [(0, .ref x), (1, .int (nI (p + 1))), (2, .int v2), (3, .int (nI k2))] [] n C Q) →
    gj_G md_Tx_takeNumber (d + 1) K N 0 0 26 [(0, .ref x), (1, .int (nI (p + 1))), (2, .int v), (3, .int (nI k))] [] n C Q := by
  intro m
  induction m with
  | zero =>
    intro k v hk hend
    refine gj_iload_n d_Tx_takeNumber_26 rfl ?_
    refine gj_kb (v := 9) d_Tx_takeNumber_27 (by decide) ?_
    refine gj_icmp_ge (tgt := 67) d_Tx_takeNumber_29 (by decide) (fun _ => hend k v rfl rfl) (fun h29 => absurd (nI_le (a := 9) (by omega) (by omega)) h29)
  | succ m ih =>
    intro k v hk hend
    refine gj_iload_n d_Tx_takeNumber_26 rfl ?_
    refine gj_kb (v := 9) d_Tx_takeNumber_27 (by decide) ?_
    refine gj_icmp_ge (tgt := 67) d_Tx_takeNumber_29 (by decide) (fun h29 => absurd h29 (nI_ge (b := 9) (by omega) (by decide))) (fun h29 => ?_)
    refine gj_aload_n d_Tx_takeNumber_32 rfl ?_
    refine gj_iload_n d_Tx_takeNumber_33 rfl ?_
    refine gj_iload_n d_Tx_takeNumber_34 rfl ?_
    refine gj_iadd d_Tx_takeNumber_35 ?_
    refine gj_top (y := nI (p + 1 + k)) (nI_add _ _) ?_
    refine gj_callV (as := [.int (nI (p + 1 + k))]) (rest := []) (K1 := 0) (N1 := 0) d_Tx_takeNumber_36 mo_Tx_at gw_174 gw_175 gw_176 hx rfl pl_Tx_at (Nat.le_of_ble_eq_true rfl) (Nat.le_of_ble_eq_true rfl) (Nat.zero_le _) (Nat.zero_le _) (c_Tx_at hx hs h6 (p + 1 + k) (by omega)) (fun E n' C' _ h => by cases h) (fun v n' C' _ h => ?_)
    cases h
    refine gj_callS (as := [.int (pt_at f ln (p + 1 + k))]) (rest := []) (K1 := 0) (N1 := 0) d_Tx_takeNumber_39 mo_Tx_isDigit gw_185 gw_186 gw_21 pl_Tx_isDigit (Nat.le_of_ble_eq_true rfl) (Nat.le_of_ble_eq_true rfl) (Nat.zero_le _) (Nat.zero_le _) (c_Tx_isDigit (pt_at f ln (p + 1 + k))) (fun E n' C' _ h => by cases h) (fun v n' C' _ h => ?_)
    cases h
    by_cases hd : 48 ≤ pt_at f ln (p + 1 + k) ∧ pt_at f ln (p + 1 + k) ≤ 57
    · refine gj_top (y := 1) (if_pos hd) ?_
      refine gj_if_eq (tgt := 67) d_Tx_takeNumber_42 (by decide) (fun h42 => absurd h42 (by decide)) (fun h42 => ?_)
      refine gj_iload_n d_Tx_takeNumber_45 rfl ?_
      refine gj_kb (v := 10) d_Tx_takeNumber_46 (by decide) ?_
      refine gj_imul d_Tx_takeNumber_48 ?_
      refine gj_aload_n d_Tx_takeNumber_49 rfl ?_
      refine gj_iload_n d_Tx_takeNumber_50 rfl ?_
      refine gj_iload_n d_Tx_takeNumber_51 rfl ?_
      refine gj_iadd d_Tx_takeNumber_52 ?_
      refine gj_top (y := nI (p + 1 + k)) (nI_add _ _) ?_
      refine gj_callV (as := [.int (nI (p + 1 + k))]) (rest := [.int ((v) * (10))]) (K1 := 0) (N1 := 0) d_Tx_takeNumber_53 mo_Tx_at gw_174 gw_175 gw_176 hx rfl pl_Tx_at (Nat.le_of_ble_eq_true rfl) (Nat.le_of_ble_eq_true rfl) (Nat.zero_le _) (Nat.zero_le _) (c_Tx_at hx hs h6 (p + 1 + k) (by omega)) (fun E n' C' _ h => by cases h) (fun v n' C' _ h => ?_)
      cases h
      refine gj_kb (v := 48) d_Tx_takeNumber_56 (by decide) ?_
      refine gj_isub d_Tx_takeNumber_58 ?_
      refine gj_iadd d_Tx_takeNumber_59 ?_
      refine gj_istore_n d_Tx_takeNumber_60 (by decide) ?_
      refine gj_iinc d_Tx_takeNumber_61 rfl (by decide) ?_
      refine gj_goto (tgt := 26) d_Tx_takeNumber_64 (by decide) ?_
      refine gj_less (lc' := [(0, .ref (x)), (1, .int (nI (p + 1))), (2, .int (v * 10 + (pt_at f ln (p + 1 + k) - 48))), (3, .int (nI k + 1))]) ⟨rfl, rfl, rfl, rfl, trivial⟩ ?_
      rw [nI_1]
      refine ih (k + 1) _ (by omega) (fun k2 v2 e1 e2 => hend k2 v2 ?_ ?_)
      · rw [e1]
        show _ = k + (if _ then _ else _)
        rw [if_pos hd, show p + 1 + k + 1 = p + 1 + (k + 1) by omega]
        omega
      · rw [e2]
        show _ = (if _ then _ else _)
        rw [if_pos hd, show p + 1 + k + 1 = p + 1 + (k + 1) by omega]
    · refine gj_top (y := 0) (if_neg hd) ?_
      refine gj_if_eq (tgt := 67) d_Tx_takeNumber_42 (by decide) (fun h42 => ?_) (fun h42 => absurd rfl h42)
      refine hend k v ?_ ?_
      · show k = k + (if _ then _ else _)
        rw [if_neg hd]
        rfl
      · show v = (if _ then _ else _)
        rw [if_neg hd]
