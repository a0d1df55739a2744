/-! small rows for all that follows -/
theorem gj_mem {md : gj_M} {d K N k w pc : Nat} {lc : List (Nat × Value)} {st : List Value} {n : Nat} {C C1 : Nat → va_E} {Q : gj_R → Prop} (h : C1 = C) (kk : gj_G md d K N k w pc lc st n C1 Q) : gj_G md d K N k w pc lc st n C Q := h ▸ kk
theorem gj_ei {v E : Int32} {n : Nat} {C : Nat → va_E} (h : v = E) : ((Sum.inl (some (Value.int v)), n, C) : gj_R) = (Sum.inl (some (Value.int E)), n, C) := by rw [h]
theorem gj_el {v E : Int64} {n : Nat} {C : Nat → va_E} (h : v = E) : ((Sum.inl (some (Value.long v)), n, C) : gj_R) = (Sum.inl (some (Value.long E)), n, C) := by rw [h]
section
variable {md : gj_M} {d K N k w pc : Nat} {lc : List (Nat × Value)} {st : List Value} {n : Nat} {C : Nat → va_E} {Q : gj_R → Prop}
theorem gj_kc {z : Int} {v : Int32} (hd : decode md.2.1 pc = .ok (.iconst z, 1)) (hv : Int32.ofInt z = v) (kk : gj_G md d K N k w (pc + 1) lc (.int v :: st) n C Q) : gj_G md d K N k w pc lc st n C Q := by rw [← hv] at kk; exact gj_iconst hd kk
theorem gj_kb {z : Int} {v : Int32} (hd : decode md.2.1 pc = .ok (.bipush z, 2)) (hv : (Int8.ofInt z).toInt32 = v) (kk : gj_G md d K N k w (pc + 2) lc (.int v :: st) n C Q) : gj_G md d K N k w pc lc st n C Q := by rw [← hv] at kk; exact gj_bipush hd kk
theorem gj_ks {z : Int} {v : Int32} (hd : decode md.2.1 pc = .ok (.sipush z, 3)) (hv : (Int16.ofInt z).toInt32 = v) (kk : gj_G md d K N k w (pc + 3) lc (.int v :: st) n C Q) : gj_G md d K N k w pc lc st n C Q := by rw [← hv] at kk; exact gj_sipush hd kk
theorem gj_kl {z : Fin 2} {v : Int64} (hd : decode md.2.1 pc = .ok (.lconst z, 1)) (hv : Int64.ofNat z = v) (kk : gj_G md d K N k w (pc + 1) lc (.long v :: st) n C Q) : gj_G md d K N k w pc lc st n C Q := by rw [← hv] at kk; exact gj_lconst hd kk
end
/-- what Text.at tells: the sign at a place, -1 behind the text -/
def pt_at (f : Nat → Int32) (ln j : Nat) : Int32 := if j < ln then f j else -1
def pt_dig (c : Int32) : Prop := 48 ≤ c ∧ c ≤ 57

/-- Text.isDigit -/
theorem c_Tx_isDigit {d K N n : Nat} {C : Nat → va_E} (c : Int32) : gj_G md_Tx_isDigit d K N 0 0 0 [(0, .int c)] [] n C (fun r => r = (.inl (some (.int (if 48 ≤ c ∧ c ≤ 57 then 1 else 0))), n, C)) := by
  refine gj_iload_n d_Tx_isDigit_0 rfl ?_
  refine gj_kb (v := 48) d_Tx_isDigit_1 (by decide) ?_
  refine gj_icmp_lt (tgt := 16) d_Tx_isDigit_3 (by decide) (fun h3 => ?_) (fun h3 => ?_)
  · refine gj_kc (v := 0) d_Tx_isDigit_16 (by decide) ?_
    refine gj_zret rfl (by first | exact Or.inl rfl | exact Or.inr rfl) (Nat.zero_le _) (Nat.zero_le _) d_Tx_isDigit_17 ?_
    exact gj_ei (if_neg (fun h => by first | exact Int32.not_lt.mpr h.1 h3 | exact Int32.not_lt.mpr h.2 h9)).symm
  · refine gj_iload_n d_Tx_isDigit_6 rfl ?_
    refine gj_kb (v := 57) d_Tx_isDigit_7 (by decide) ?_
    refine gj_icmp_gt (tgt := 16) d_Tx_isDigit_9 (by decide) (fun h9 => ?_) (fun h9 => ?_)
    · refine gj_kc (v := 0) d_Tx_isDigit_16 (by decide) ?_
      refine gj_zret rfl (by first | exact Or.inl rfl | exact Or.inr rfl) (Nat.zero_le _) (Nat.zero_le _) d_Tx_isDigit_17 ?_
      exact gj_ei (if_neg (fun h => by first | exact Int32.not_lt.mpr h.1 h3 | exact Int32.not_lt.mpr h.2 h9)).symm
    · refine gj_kc (v := 1) d_Tx_isDigit_12 (by decide) ?_
      refine gj_goto (tgt := 17) d_Tx_isDigit_13 (by decide) ?_
      refine gj_zret rfl (by first | exact Or.inl rfl | exact Or.inr rfl) (Nat.zero_le _) (Nat.zero_le _) d_Tx_isDigit_17 ?_
      exact gj_ei (if_pos ⟨Int32.not_lt.mp h3, Int32.not_lt.mp h9⟩).symm
/-- Text.at -/
theorem c_Tx_at {d K N n x ln : Nat} {C : Nat → va_E} {f : Nat → Int32} {pl : Int32} (hx : C x = .inr (1, [.ref (x + 1), .ref (x + 2), .int (nI ln), .int pl])) (hs : C (x + 1) = .inl (0, 600, .inl f)) (h6 : ln ≤ 600) (j : Nat) (hj : j < 2 ^ 31) : gj_G md_Tx_at d K N 0 0 0 [(0, .ref x), (1, .int (nI j))] [] n C (fun r => r = (.inl (some (.int (pt_at f ln j))), n, C)) := by
  refine gj_iload_n d_Tx_at_0 rfl ?_
  refine gj_if_lt (tgt := 21) d_Tx_at_1 (by decide) (fun h1 => absurd h1 (nI_pos hj)) (fun h1 => ?_)
  refine gj_iload_n d_Tx_at_4 rfl ?_
  refine gj_aload_n d_Tx_at_5 rfl ?_
  refine gj_get d_Tx_at_6 gf_Tx_18 hx rfl ?_
  refine gj_icmp_ge (tgt := 21) d_Tx_at_9 (by decide) (fun h9 => ?_) (fun h9 => ?_)
  · refine gj_kc (v := (-1)) d_Tx_at_21 (by decide) ?_
    refine gj_iret rfl (Nat.zero_le _) (Nat.zero_le _) d_Tx_at_22 ?_
    exact gj_ei (if_neg (fun h => nI_ge h (by omega) h9)).symm
  · refine gj_aload_n d_Tx_at_12 rfl ?_
    refine gj_get d_Tx_at_13 gf_Tx_9 hx rfl ?_
    refine gj_iload_n d_Tx_at_16 rfl ?_
    refine gj_iald d_Tx_at_17 hs rfl (vp_in_nI (Nat.lt_of_lt_of_le (Nat.lt_of_not_le (fun h => h9 (nI_le h hj))) h6) (by decide)) ?_
    refine gj_goto (tgt := 22) d_Tx_at_18 (by decide) ?_
    refine gj_iret rfl (Nat.zero_le _) (Nat.zero_le _) d_Tx_at_22 ?_
    exact gj_ei (by rw [nI_clamp hj]; exact (if_pos (Nat.lt_of_not_le (fun h => h9 (nI_le h hj)))).symm)
/-- Text.clear -/
theorem c_Tx_clear {d K N n x : Nat} {C : Nat → va_E} {ln : Nat} {pl : Int32} (hx : C x = .inr (1, [.ref (x + 1), .ref (x + 2), .int (nI ln), .int pl])) : gj_G md_Tx_clear d K N 0 0 0 [(0, .ref x)] [] n C (fun r => r = (.inl none, n, va_up C x (.inr (1, [.ref (x + 1), .ref (x + 2), .int 0, .int pl])))) := by
  refine gj_aload_n d_Tx_clear_0 rfl ?_
  refine gj_kc (v := 0) d_Tx_clear_1 (by decide) ?_
  refine gj_put d_Tx_clear_2 gp_Tx_18 hx (Nat.le_of_ble_eq_true rfl) (fun _ => rfl) (fun _ => rfl) ?_
  obtain ⟨C1, eC1⟩ : ∃ z, z = va_up C (x) (.inr (1, [.ref (x + 1), .ref (x + 2), .int (0), .int (pl)])) := ⟨_, rfl⟩
  refine gj_mem eC1 ?_
  have f2 : C1 (x) = .inr (1, [.ref (x + 1), .ref (x + 2), .int (0), .int (pl)]) := by rw [eC1]; exact va_up_self _ _ _
  refine gj_vret rfl (Nat.zero_le _) (Nat.zero_le _) d_Tx_clear_5 ?_
  rw [eC1]
/-- Text.append, with room -/
theorem c_Tx_append {d K N n x ln : Nat} {C : Nat → va_E} {f : Nat → Int32} {pl c : Int32} (hx : C x = .inr (1, [.ref (x + 1), .ref (x + 2), .int (nI ln), .int pl])) (hs : C (x + 1) = .inl (0, 600, .inl f)) (h6 : ln < 600) : gj_G md_Tx_append d K N 0 0 0 [(0, .ref x), (1, .int c)] [] n C (fun r => r = (.inl none, n, va_up (va_up C (x + 1) (.inl (0, 600, .inl (upd f ln c)))) x (.inr (1, [.ref (x + 1), .ref (x + 2), .int (nI (ln + 1)), .int pl])))) := by
  refine gj_aload_n d_Tx_append_0 rfl ?_
  refine gj_get d_Tx_append_1 gf_Tx_18 hx rfl ?_
  refine gj_ks (v := 600) d_Tx_append_4 (by decide) ?_
  refine gj_icmp_ge (tgt := 30) d_Tx_append_7 (by decide) (fun h7 => absurd h7 (fun h => absurd h (nI_ge (b := 600) h6 (by decide)))) (fun h7 => ?_)
  refine gj_aload_n d_Tx_append_10 rfl ?_
  refine gj_get d_Tx_append_11 gf_Tx_9 hx rfl ?_
  refine gj_aload_n d_Tx_append_14 rfl ?_
  refine gj_get d_Tx_append_15 gf_Tx_18 hx rfl ?_
  refine gj_iload_n d_Tx_append_18 rfl ?_
  refine gj_iast d_Tx_append_19 hs rfl (vp_in_nI h6 (by decide)) ?_
  obtain ⟨C1, eC1⟩ : ∃ z, z = va_up C (x + 1) (.inl (0, 600, .inl (upd f (nI ln : Int32).toNatClampNeg (c)))) := ⟨_, rfl⟩
  refine gj_mem eC1 ?_
  have f2 : C1 (x) = .inr (1, [.ref (x + 1), .ref (x + 2), .int (nI ln), .int (pl)]) := by rw [eC1, va_up_ne _ _ (by omega)]; exact hx
  have f3 : C1 (x + 1) = .inl (0, 600, .inl (upd f (nI ln : Int32).toNatClampNeg (c))) := by rw [eC1]; exact va_up_self _ _ _
  refine gj_aload_n d_Tx_append_20 rfl ?_
  refine gj_dup d_Tx_append_21 rfl ?_
  refine gj_get d_Tx_append_22 gf_Tx_18 f2 rfl ?_
  refine gj_kc (v := 1) d_Tx_append_25 (by decide) ?_
  refine gj_iadd d_Tx_append_26 ?_
  refine gj_put d_Tx_append_27 gp_Tx_18 f2 (Nat.le_of_ble_eq_true rfl) (fun _ => rfl) (fun _ => rfl) ?_
  obtain ⟨C4, eC4⟩ : ∃ z, z = va_up C1 (x) (.inr (1, [.ref (x + 1), .ref (x + 2), .int ((nI ln) + (1)), .int (pl)])) := ⟨_, rfl⟩
  refine gj_mem eC4 ?_
  have f5 : C4 (x) = .inr (1, [.ref (x + 1), .ref (x + 2), .int ((nI ln) + (1)), .int (pl)]) := by rw [eC4]; exact va_up_self _ _ _
  have f6 : C4 (x + 1) = .inl (0, 600, .inl (upd f (nI ln : Int32).toNatClampNeg (c))) := by rw [eC4, va_up_ne _ _ (by omega)]; exact f3
  refine gj_vret rfl (Nat.zero_le _) (Nat.zero_le _) d_Tx_append_30 ?_
  rw [eC4, eC1, nI_clamp (by omega), nI_1]
/-- how many numbers a line of that letter has -/
def pt_nb (c : Int32) : Int32 := if c = 82 then 4 else if c = 70 then 3 else if c = 68 ∨ c = 77 then 2 else 0
theorem c_Tx_numbersBehind {d K N n : Nat} {C : Nat → va_E} (c : Int32) : gj_G md_Tx_numbersBehind d K N 0 0 0 [(0, .int c)] [] n C (fun r => r = (.inl (some (.int (pt_nb c))), n, C)) := by
  refine gj_iload_n d_Tx_numbersBehind_0 rfl ?_
  by_cases h1 : c = 82
  · subst h1
    refine gj_lookup (off := 43) (tgt := 44) d_Tx_numbersBehind_1 (by decide) (by decide) (by decide) ?_
    refine gj_kc (v := 4) d_Tx_numbersBehind_44 (by decide) ?_
    exact gj_iret rfl (Nat.zero_le _) (Nat.zero_le _) d_Tx_numbersBehind_45 (gj_ei (by decide))
  · by_cases h2 : c = 70
    · subst h2
      refine gj_lookup (off := 45) (tgt := 46) d_Tx_numbersBehind_1 (by decide) (by decide) (by decide) ?_
      refine gj_kc (v := 3) d_Tx_numbersBehind_46 (by decide) ?_
      exact gj_iret rfl (Nat.zero_le _) (Nat.zero_le _) d_Tx_numbersBehind_47 (gj_ei (by decide))
    · by_cases h3 : c = 68 ∨ c = 77
      · refine gj_lookup (off := 47) (tgt := 48) d_Tx_numbersBehind_1 (by decide) (by rcases h3 with rfl | rfl <;> decide) (by decide) ?_
        refine gj_kc (v := 2) d_Tx_numbersBehind_48 (by decide) ?_
        exact gj_iret rfl (Nat.zero_le _) (Nat.zero_le _) d_Tx_numbersBehind_49 (gj_ei (by rcases h3 with rfl | rfl <;> decide))
      · have h4 : ¬ c = 68 := fun h => h3 (Or.inl h)
        have h5 : ¬ c = 77 := fun h => h3 (Or.inr h)
        refine gj_lookup (off := 49) (tgt := 50) d_Tx_numbersBehind_1 (by decide) (by rw [lv_osw h4 (by decide), lv_osw h2 (by decide), lv_osw h5 (by decide), lv_osw h1 (by decide)]; rfl) (by decide) ?_
        refine gj_kc (v := 0) d_Tx_numbersBehind_50 (by decide) ?_
        exact gj_iret rfl (Nat.zero_le _) (Nat.zero_le _) d_Tx_numbersBehind_51 (gj_ei (by unfold pt_nb; rw [if_neg h1, if_neg h2, if_neg h3]))
