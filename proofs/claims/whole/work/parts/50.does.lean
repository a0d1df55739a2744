/-! the public methods of RateBreaks: what they do -/
set_option maxHeartbeats 2000000 in
theorem c_RB_sign {d K N n x q mk : Nat} {C : Nat → va_E} {ln : Nat} {pp : Int32} {f : Nat → Int32} (o1 : C (1) = .inr (0, [.ref (2), .ref (x), .ref (q), .ref (23), .int (nI mk), .ref (24), .ref (65), .ref (66)])) (o2 : C (2) = .inr (1, [.ref (3), .ref (4), .int (nI ln), .int (pp)])) (o3 : C (3) = .inl (0, 600, .inl f)) {c : Int32} (h : 0 ≤ c ∧ c ≤ 255) (hl : ln < 600) : gj_G md_RB_sign (d + 1) K N 0 0 0 [(0, .ref (1)), (1, .int (c))] [] (n) C (fun r => r.1 = gj_iv (nI (ln + 1)) ∧ r.2.1 = n ∧ r.2.2 2 = .inr (1, [.ref 3, .ref 4, .int (nI (ln + 1)), .int pp]) ∧ r.2.2 3 = .inl (0, 600, .inl (upd f ln c)) ∧ ∀ y, y ≠ 2 → y ≠ 3 → r.2.2 y = C y) := by
  refine gj_iload_n d_RB_sign_0 rfl ?_
  refine gj_kc (v := 0) d_RB_sign_1 (by decide) ?_
  refine gj_ks (v := 255) d_RB_sign_2 (by decide) ?_
  refine gj_callS (as := [.int (c), .int (0), .int (255)]) (rest := []) (K1 := 0) (N1 := 0) d_RB_sign_5 mo_RB_needWithin gw_241 gw_242 gw_20 pl_RB_needWithin (Nat.le_of_ble_eq_true rfl) (Nat.le_of_ble_eq_true rfl) (Nat.zero_le _) (Nat.zero_le _) (c_RB_needWithin h.1 h.2) (fun E n' C' _ h => by cases h) (fun v n' C' _ h => ?_)
  cases h
  refine gj_aload_n d_RB_sign_8 rfl ?_
  refine gj_get d_RB_sign_9 gf_RB_10 o1 rfl ?_
  refine gj_get d_RB_sign_12 gf_RB_57 o2 rfl ?_
  refine gj_ks (v := 600) d_RB_sign_15 (by decide) ?_
  refine gj_icmp_lt (tgt := 31) d_RB_sign_18 (by decide) (fun h18 => ?_) (fun h18 => by have m18 : ¬ (ln < 600) := fun q => h18 ((nI_ltI (a := ln) (b := 600) (by omega) (by omega)).mpr q); exact absurd (show ln < 600 from hl) m18)
  have m18 : ln < 600 := (nI_ltI (a := ln) (b := 600) (by omega) (by omega)).mp h18
  refine gj_aload_n d_RB_sign_31 rfl ?_
  refine gj_get d_RB_sign_32 gf_RB_10 o1 rfl ?_
  refine gj_iload_n d_RB_sign_35 rfl ?_
  refine gj_callV (as := [.int (c)]) (rest := []) (K1 := 0) (N1 := 0) d_RB_sign_36 mo_Tx_append gw_330 gw_331 gw_332 o2 rfl pl_Tx_append (Nat.le_of_ble_eq_true rfl) (Nat.le_of_ble_eq_true rfl) (Nat.zero_le _) (Nat.zero_le _) (c_Tx_append (x := 2) o2 o3 hl) (fun E n' C' _ h => by cases h) (fun v n' C' _ h => ?_)
  cases h
  obtain ⟨C1, eC1⟩ : ∃ Z0, Z0 = va_up (va_up C 3 (.inl (0, 600, .inl (upd f ln c)))) 2 (.inr (1, [.ref 3, .ref 4, .int (nI (ln + 1)), .int pp])) := ⟨_, rfl⟩
  refine gj_mem eC1 ?_
  have k1 : C1 1 = .inr (0, [.ref (2), .ref (x), .ref (q), .ref (23), .int (nI mk), .ref (24), .ref (65), .ref (66)]) := by rw [eC1, va_up_ne _ _ (by decide), va_up_ne _ _ (by decide)]; exact o1
  have k2 : C1 2 = .inr (1, [.ref 3, .ref 4, .int (nI (ln + 1)), .int pp]) := by rw [eC1]; exact va_up_self _ _ _
  have k3 : C1 3 = .inl (0, 600, .inl (upd f ln c)) := by rw [eC1, va_up_ne _ _ (by decide)]; exact va_up_self _ _ _
  have kf : ∀ y, y ≠ 2 → y ≠ 3 → C1 y = C y := fun y a1 a2 => by rw [eC1, va_up_ne _ _ a1, va_up_ne _ _ a2]
  refine gj_aload_n d_RB_sign_39 rfl ?_
  refine gj_get d_RB_sign_40 gf_RB_10 k1 rfl ?_
  refine gj_get d_RB_sign_43 gf_RB_57 k2 rfl ?_
  refine gj_iret rfl (Nat.zero_le _) (Nat.zero_le _) d_RB_sign_46 ?_
  exact ⟨rfl, rfl, k2, k3, kf⟩
set_option maxHeartbeats 2000000 in
theorem c_RB_read {d K N n x q mk : Nat} {C : Nat → va_E} {ln sp : Nat} {pp li : Int32} {f g la ab ut ce dv mi fu fd : Nat → Int32} (o1 : C (1) = .inr (0, [.ref (2), .ref (x), .ref (q), .ref (23), .int (nI mk), .ref (24), .ref (65), .ref (66)])) (o2 : C (2) = .inr (1, [.ref (3), .ref (4), .int (nI ln), .int (pp)])) (o3 : C (3) = .inl (0, 600, .inl f)) (o4 : C (4) = .inl (0, 4, .inl g)) (k0 : C (q) = .inr (2, [.ref (q + 1), .ref (q + 2), .ref (q + 3), .ref (q + 4), .ref (q + 5), .ref (q + 6), .ref (q + 7), .ref (q + 8), .int (li), .int (nI sp)])) (k1 : C (q + 1) = .inl (0, 60, .inl la)) (k2 : C (q + 2) = .inl (0, 60, .inl ab)) (k3 : C (q + 3) = .inl (0, 60, .inl ut)) (k4 : C (q + 4) = .inl (0, 60, .inl ce)) (k5 : C (q + 5) = .inl (0, 10, .inl dv)) (k6 : C (q + 6) = .inl (0, 10, .inl mi)) (k7 : C (q + 7) = .inl (0, 10, .inl fu)) (k8 : C (q + 8) = .inl (0, 10, .inl fd)) (h6 : ln ≤ 600) (hq : 4 < q) {T3 : pr_T} {l3 p3 : Nat} (hR : pt_rd f ln 60 0 0 g (la, ab, ut, ce, pr_clr dv 10, pr_clr mi 10, pr_clr fu 10, pr_clr fd 10, 0) = (some (T3, l3), p3)) : gj_G md_RB_read (d + 5) K N 0 0 0 [(0, .ref (1))] [] (n) C (fun r => r.1 = gj_iv (nI l3) ∧ r.2.1 = n ∧ r.2.2 1 = .inr (0, [.ref 2, .ref q, .ref x, .ref 23, .int (nI mk), .ref 24, .ref 65, .ref 66]) ∧ (∃ pp2, r.2.2 2 = .inr (1, [.ref 3, .ref 4, .int 0, .int pp2])) ∧ (∃ g2, r.2.2 4 = .inl (0, 4, .inl g2)) ∧ pr_M r.2.2 q T3 (nI l3) ∧ ∀ y, y ≠ 1 → y ≠ 2 → y ≠ 4 → (y < q ∨ q + 8 < y) → r.2.2 y = C y) := by
  refine gj_aload_n d_RB_read_0 rfl ?_
  refine gj_aload_n d_RB_read_1 rfl ?_
  refine gj_get d_RB_read_2 gf_RB_23 o1 rfl ?_
  refine gj_callV (as := [.ref (q)]) (rest := []) (K1 := 0) (N1 := 0) d_RB_read_5 mo_RB_readInto gw_165 gw_167 gw_0 o1 rfl pl_RB_readInto (Nat.le_of_ble_eq_true rfl) (Nat.le_of_ble_eq_true rfl) (Nat.zero_le _) (Nat.zero_le _) (c_RB_readInto o1 o2 o3 o4 k0 k1 k2 k3 k4 k5 k6 k7 k8 h6 hq) (fun E n2 Cq _ h => by obtain ⟨v, hv, -⟩ := h; exact nomatch hv) (fun v n2 Cq _ h => ?_)
  obtain ⟨v2, hv, hn, hres, pp2, g2, z2, z4, zf⟩ := h
  dsimp only [gj_iv] at hv hn hres z2 z4 zf
  cases hv; cases hn
  rw [hR] at hres
  obtain ⟨hv3, m0, m1, m2, m3, m4, m5, m6, m7, m8⟩ := hres
  subst hv3
  have z1 : Cq 1 = .inr (0, [.ref (2), .ref (x), .ref (q), .ref (23), .int (nI mk), .ref (24), .ref (65), .ref (66)]) := (zf _ (by omega) (by omega) (by omega)).trans o1
  refine gj_istore_n d_RB_read_8 (by decide) ?_
  refine gj_aload_n d_RB_read_9 rfl ?_
  refine gj_get d_RB_read_10 gf_RB_10 z1 rfl ?_
  refine gj_callV (as := []) (rest := []) (K1 := 0) (N1 := 0) d_RB_read_13 mo_Tx_clear gw_213 gw_214 gw_215 z2 rfl pl_Tx_clear (Nat.le_of_ble_eq_true rfl) (Nat.le_of_ble_eq_true rfl) (Nat.zero_le _) (Nat.zero_le _) (c_Tx_clear (x := 2) z2) (fun E n' C' _ h => by cases h) (fun v n' C' _ h => ?_)
  cases h
  obtain ⟨C1, eC1⟩ : ∃ Z0, Z0 = va_up Cq 2 (.inr (1, [.ref 3, .ref 4, .int 0, .int pp2])) := ⟨_, rfl⟩
  refine gj_mem eC1 ?_
  have y1 : C1 1 = .inr (0, [.ref (2), .ref (x), .ref (q), .ref (23), .int (nI mk), .ref (24), .ref (65), .ref (66)]) := by rw [eC1, va_up_ne _ _ (by decide)]; exact z1
  have y2 : C1 2 = .inr (1, [.ref 3, .ref 4, .int 0, .int pp2]) := by rw [eC1]; exact va_up_self _ _ _
  have y4 : C1 4 = .inl (0, 4, .inl g2) := by rw [eC1, va_up_ne _ _ (by decide)]; exact z4
  have yq : C1 q = .inr (2, [.ref (q + 1), .ref (q + 2), .ref (q + 3), .ref (q + 4), .ref (q + 5), .ref (q + 6), .ref (q + 7), .ref (q + 8), .int (nI l3), .int (nI T3.2.2.2.2.2.2.2.2)]) := by rw [eC1, va_up_ne _ _ (by omega)]; exact m0
  have yf : ∀ y, y ≠ 2 → C1 y = Cq y := fun y a => by rw [eC1, va_up_ne _ _ a]
  refine gj_iload_n d_RB_read_16 rfl ?_
  refine gj_kc (v := (-1)) d_RB_read_17 (by decide) ?_
  refine gj_icmp_eq (tgt := 25) d_RB_read_18 (by decide) (fun h18 => ?_) (fun h18 => absurd (rfl) h18)
  refine gj_aload_n d_RB_read_25 rfl ?_
  refine gj_get d_RB_read_26 gf_RB_19 y1 rfl ?_
  refine gj_astore_n d_RB_read_29 (by decide) ?_
  refine gj_aload_n d_RB_read_30 rfl ?_
  refine gj_aload_n d_RB_read_31 rfl ?_
  refine gj_get d_RB_read_32 gf_RB_23 y1 rfl ?_
  refine gj_put d_RB_read_35 gp_RB_19 y1 (Nat.le_of_ble_eq_true rfl) (fun _ => rfl) (fun _ => rfl) ?_
  obtain ⟨C2, eC2⟩ : ∃ Z0, Z0 = va_up C1 (1) (.inr (0, [.ref (2), .ref (q), .ref (q), .ref (23), .int (nI mk), .ref (24), .ref (65), .ref (66)])) := ⟨_, rfl⟩
  refine gj_mem eC2 ?_
  have f3 : C2 (1) = .inr (0, [.ref (2), .ref (q), .ref (q), .ref (23), .int (nI mk), .ref (24), .ref (65), .ref (66)]) := by rw [eC2]; exact va_up_self _ _ _
  have f4 : C2 (2) = .inr (1, [.ref (3), .ref (4), .int (0), .int (pp2)]) := by rw [eC2, va_up_ne _ _ (by omega)]; exact y2
  have f5 : C2 (4) = .inl (0, 4, .inl g2) := by rw [eC2, va_up_ne _ _ (by omega)]; exact y4
  have f6 : C2 (q) = .inr (2, [.ref (q + 1), .ref (q + 2), .ref (q + 3), .ref (q + 4), .ref (q + 5), .ref (q + 6), .ref (q + 7), .ref (q + 8), .int (nI l3), .int (nI T3.2.2.2.2.2.2.2.2)]) := by rw [eC2, va_up_ne _ _ (by omega)]; exact yq
  refine gj_aload_n d_RB_read_38 rfl ?_
  refine gj_aload_n d_RB_read_39 rfl ?_
  refine gj_put d_RB_read_40 gp_RB_23 f3 (Nat.le_of_ble_eq_true rfl) (fun _ => rfl) (fun _ => rfl) ?_
  obtain ⟨C7, eC7⟩ : ∃ Z0, Z0 = va_up C2 (1) (.inr (0, [.ref (2), .ref (q), .ref (x), .ref (23), .int (nI mk), .ref (24), .ref (65), .ref (66)])) := ⟨_, rfl⟩
  refine gj_mem eC7 ?_
  have f8 : C7 (1) = .inr (0, [.ref (2), .ref (q), .ref (x), .ref (23), .int (nI mk), .ref (24), .ref (65), .ref (66)]) := by rw [eC7]; exact va_up_self _ _ _
  have f9 : C7 (2) = .inr (1, [.ref (3), .ref (4), .int (0), .int (pp2)]) := by rw [eC7, va_up_ne _ _ (by omega)]; exact f4
  have f10 : C7 (4) = .inl (0, 4, .inl g2) := by rw [eC7, va_up_ne _ _ (by omega)]; exact f5
  have f11 : C7 (q) = .inr (2, [.ref (q + 1), .ref (q + 2), .ref (q + 3), .ref (q + 4), .ref (q + 5), .ref (q + 6), .ref (q + 7), .ref (q + 8), .int (nI l3), .int (nI T3.2.2.2.2.2.2.2.2)]) := by rw [eC7, va_up_ne _ _ (by omega)]; exact f6
  refine gj_aload_n d_RB_read_43 rfl ?_
  refine gj_get d_RB_read_44 gf_RB_19 f8 rfl ?_
  refine gj_get d_RB_read_47 gf_RB_77 f11 rfl ?_
  refine gj_iret rfl (Nat.zero_le _) (Nat.zero_le _) d_RB_read_50 ?_
  have xf : ∀ y, y ≠ 1 → C7 y = C1 y := fun y a => by rw [eC7, va_up_ne _ _ a, eC2, va_up_ne _ _ a]
  exact ⟨rfl, rfl, f8, ⟨pp2, f9⟩, ⟨g2, f10⟩, pr_M_of (C := Cq) ⟨m0, m1, m2, m3, m4, m5, m6, m7, m8⟩ (fun y a1 a2 => (xf y (by omega)).trans (yf y (by omega))), fun y a1 a2 a3 a4 => ((xf y a1).trans (yf y a2)).trans (zf y a2 a3 a4)⟩
set_option maxHeartbeats 2000000 in
theorem c_RB_read_no {d K N n x q mk : Nat} {C : Nat → va_E} {ln sp : Nat} {pp li : Int32} {f g la ab ut ce dv mi fu fd : Nat → Int32} (o1 : C (1) = .inr (0, [.ref (2), .ref (x), .ref (q), .ref (23), .int (nI mk), .ref (24), .ref (65), .ref (66)])) (o2 : C (2) = .inr (1, [.ref (3), .ref (4), .int (nI ln), .int (pp)])) (o3 : C (3) = .inl (0, 600, .inl f)) (o4 : C (4) = .inl (0, 4, .inl g)) (k0 : C (q) = .inr (2, [.ref (q + 1), .ref (q + 2), .ref (q + 3), .ref (q + 4), .ref (q + 5), .ref (q + 6), .ref (q + 7), .ref (q + 8), .int (li), .int (nI sp)])) (k1 : C (q + 1) = .inl (0, 60, .inl la)) (k2 : C (q + 2) = .inl (0, 60, .inl ab)) (k3 : C (q + 3) = .inl (0, 60, .inl ut)) (k4 : C (q + 4) = .inl (0, 60, .inl ce)) (k5 : C (q + 5) = .inl (0, 10, .inl dv)) (k6 : C (q + 6) = .inl (0, 10, .inl mi)) (k7 : C (q + 7) = .inl (0, 10, .inl fu)) (k8 : C (q + 8) = .inl (0, 10, .inl fd)) (h6 : ln ≤ 600) (hq : 4 < q) {p3 : Nat} (hp3 : p3 < 2 ^ 31) (hR : pt_rd f ln 60 0 0 g (la, ab, ut, ce, pr_clr dv 10, pr_clr mi 10, pr_clr fu 10, pr_clr fd 10, 0) = (none, p3)) : gj_G md_RB_read (d + 5) K N 0 0 0 [(0, .ref (1))] [] (n) C (fun r => r.1 = gj_iv (-1 - nI p3) ∧ r.2.1 = n ∧ (∃ pp2, r.2.2 2 = .inr (1, [.ref 3, .ref 4, .int 0, .int pp2])) ∧ (∃ g2, r.2.2 4 = .inl (0, 4, .inl g2)) ∧ (∃ T2 l2, pr_M r.2.2 q T2 l2) ∧ ∀ y, y ≠ 2 → y ≠ 4 → (y < q ∨ q + 8 < y) → r.2.2 y = C y) := by
  refine gj_aload_n d_RB_read_0 rfl ?_
  refine gj_aload_n d_RB_read_1 rfl ?_
  refine gj_get d_RB_read_2 gf_RB_23 o1 rfl ?_
  refine gj_callV (as := [.ref (q)]) (rest := []) (K1 := 0) (N1 := 0) d_RB_read_5 mo_RB_readInto gw_165 gw_167 gw_0 o1 rfl pl_RB_readInto (Nat.le_of_ble_eq_true rfl) (Nat.le_of_ble_eq_true rfl) (Nat.zero_le _) (Nat.zero_le _) (c_RB_readInto o1 o2 o3 o4 k0 k1 k2 k3 k4 k5 k6 k7 k8 h6 hq) (fun E n2 Cq _ h => by obtain ⟨v, hv, -⟩ := h; exact nomatch hv) (fun v n2 Cq _ h => ?_)
  obtain ⟨v2, hv, hn, hres, pp2, g2, z2, z4, zf⟩ := h
  dsimp only [gj_iv] at hv hn hres z2 z4 zf
  cases hv; cases hn
  rw [hR] at hres
  obtain ⟨hv3, T2, l2, hM⟩ := hres
  subst hv3
  have z1 : Cq 1 = .inr (0, [.ref (2), .ref (x), .ref (q), .ref (23), .int (nI mk), .ref (24), .ref (65), .ref (66)]) := (zf _ (by omega) (by omega) (by omega)).trans o1
  refine gj_istore_n d_RB_read_8 (by decide) ?_
  refine gj_aload_n d_RB_read_9 rfl ?_
  refine gj_get d_RB_read_10 gf_RB_10 z1 rfl ?_
  refine gj_callV (as := []) (rest := []) (K1 := 0) (N1 := 0) d_RB_read_13 mo_Tx_clear gw_213 gw_214 gw_215 z2 rfl pl_Tx_clear (Nat.le_of_ble_eq_true rfl) (Nat.le_of_ble_eq_true rfl) (Nat.zero_le _) (Nat.zero_le _) (c_Tx_clear (x := 2) z2) (fun E n' C' _ h => by cases h) (fun v n' C' _ h => ?_)
  cases h
  obtain ⟨C1, eC1⟩ : ∃ Z0, Z0 = va_up Cq 2 (.inr (1, [.ref 3, .ref 4, .int 0, .int pp2])) := ⟨_, rfl⟩
  refine gj_mem eC1 ?_
  have y1 : C1 1 = .inr (0, [.ref (2), .ref (x), .ref (q), .ref (23), .int (nI mk), .ref (24), .ref (65), .ref (66)]) := by rw [eC1, va_up_ne _ _ (by decide)]; exact z1
  have y2 : C1 2 = .inr (1, [.ref 3, .ref 4, .int 0, .int pp2]) := by rw [eC1]; exact va_up_self _ _ _
  have y4 : C1 4 = .inl (0, 4, .inl g2) := by rw [eC1, va_up_ne _ _ (by decide)]; exact z4
  have yf : ∀ y, y ≠ 2 → C1 y = Cq y := fun y a => by rw [eC1, va_up_ne _ _ a]
  refine gj_iload_n d_RB_read_16 rfl ?_
  refine gj_kc (v := (-1)) d_RB_read_17 (by decide) ?_
  refine gj_icmp_eq (tgt := 25) d_RB_read_18 (by decide) (fun h18 => absurd h18 (nI_m1 hp3)) (fun h18 => ?_)
  refine gj_kc (v := (-1)) d_RB_read_21 (by decide) ?_
  refine gj_iload_n d_RB_read_22 rfl ?_
  refine gj_isub d_RB_read_23 ?_
  refine gj_iret rfl (Nat.zero_le _) (Nat.zero_le _) d_RB_read_24 ?_
  exact ⟨rfl, rfl, ⟨pp2, y2⟩, ⟨g2, y4⟩, ⟨T2, l2, pr_M_of hM (fun y a1 a2 => yf y (by omega))⟩, fun y a1 a2 a3 => (yf y a1).trans (zf y a1 a2 a3)⟩
set_option maxHeartbeats 2000000 in
theorem c_RB_shipment {d K N n x q mk : Nat} {C : Nat → va_E} {sh : Nat → Option Nat} (o1 : C (1) = .inr (0, [.ref (2), .ref (x), .ref (q), .ref (23), .int (nI mk), .ref (24), .ref (65), .ref (66)])) (hsh : C (23) = .inl (3, 20, .inr (.inr (.inr (.inr sh))))) (hK : 1 ≤ K) (hN : 6 ≤ N) {z g v : Int32} (h : (0 ≤ z ∧ z ≤ 9) ∧ (1 ≤ g ∧ g ≤ 100000) ∧ (0 ≤ v ∧ v ≤ 100000000)) (hm : mk < 20) (hn : 23 ≤ n) : gj_G md_RB_shipment (d + 1) K N 0 0 0 [(0, .ref (1)), (1, .int (z)), (2, .int (g)), (3, .int (v))] [] (n) C (fun r => r.1 = gj_iv (nI mk) ∧ r.2.1 = n + 1 ∧ r.2.2 1 = .inr (0, [.ref 2, .ref x, .ref q, .ref 23, .int (nI (mk + 1)), .ref 24, .ref 65, .ref 66]) ∧ r.2.2 23 = .inl (3, 20, .inr (.inr (.inr (.inr (va_up sh mk (some (n + 1))))))) ∧ r.2.2 (n + 1) = .inr (4, [.int z, .int g, .int v, .int (-1), .int (-1), .int (-1)]) ∧ ∀ y, y ≠ 1 → y ≠ 23 → y ≠ n + 1 → r.2.2 y = C y) := by
  refine gj_iload_n d_RB_shipment_0 rfl ?_
  refine gj_kc (v := 0) d_RB_shipment_1 (by decide) ?_
  refine gj_kb (v := 9) d_RB_shipment_2 (by decide) ?_
  refine gj_callS (as := [.int (z), .int (0), .int (9)]) (rest := []) (K1 := 0) (N1 := 0) d_RB_shipment_4 mo_RB_needWithin gw_241 gw_242 gw_20 pl_RB_needWithin (Nat.le_of_ble_eq_true rfl) (Nat.le_of_ble_eq_true rfl) (Nat.zero_le _) (Nat.zero_le _) (c_RB_needWithin h.1.1 h.1.2) (fun E n' C' _ h => by cases h) (fun v n' C' _ h => ?_)
  cases h
  refine gj_iload_n d_RB_shipment_7 rfl ?_
  refine gj_kc (v := 1) d_RB_shipment_8 (by decide) ?_
  refine gj_ldc d_RB_shipment_9 gw_341 ?_
  refine gj_callS (as := [.int (g), .int (1), .int (100000)]) (rest := []) (K1 := 0) (N1 := 0) d_RB_shipment_11 mo_RB_needWithin gw_241 gw_242 gw_20 pl_RB_needWithin (Nat.le_of_ble_eq_true rfl) (Nat.le_of_ble_eq_true rfl) (Nat.zero_le _) (Nat.zero_le _) (c_RB_needWithin h.2.1.1 h.2.1.2) (fun E n' C' _ h => by cases h) (fun v n' C' _ h => ?_)
  cases h
  refine gj_iload_n d_RB_shipment_14 rfl ?_
  refine gj_kc (v := 0) d_RB_shipment_15 (by decide) ?_
  refine gj_ldc d_RB_shipment_16 gw_342 ?_
  refine gj_callS (as := [.int (v), .int (0), .int (100000000)]) (rest := []) (K1 := 0) (N1 := 0) d_RB_shipment_18 mo_RB_needWithin gw_241 gw_242 gw_20 pl_RB_needWithin (Nat.le_of_ble_eq_true rfl) (Nat.le_of_ble_eq_true rfl) (Nat.zero_le _) (Nat.zero_le _) (c_RB_needWithin h.2.2.1 h.2.2.2) (fun E n' C' _ h => by cases h) (fun v n' C' _ h => ?_)
  cases h
  refine gj_aload_n d_RB_shipment_21 rfl ?_
  refine gj_get d_RB_shipment_22 gf_RB_32 o1 rfl ?_
  refine gj_kb (v := 20) d_RB_shipment_25 (by decide) ?_
  refine gj_icmp_lt (tgt := 40) d_RB_shipment_27 (by decide) (fun h27 => ?_) (fun h27 => by have m27 : ¬ (mk < 20) := fun q => h27 ((nI_ltI (a := mk) (b := 20) (by omega) (by omega)).mpr q); exact absurd (show mk < 20 from hm) m27)
  have m27 : mk < 20 := (nI_ltI (a := mk) (b := 20) (by omega) (by omega)).mp h27
  refine gj_aload_n d_RB_shipment_40 rfl ?_
  refine gj_get d_RB_shipment_41 gf_RB_28 o1 rfl ?_
  refine gj_aload_n d_RB_shipment_44 rfl ?_
  refine gj_get d_RB_shipment_45 gf_RB_32 o1 rfl ?_
  refine gj_new d_RB_shipment_48 gn_RB_26 (by omega) (by omega) ?_
  obtain ⟨C1, eC1⟩ : ∃ Z0, Z0 = va_up C (n + 1) (.inr (4, [.int (0), .int (0), .int (0), .int (0), .int (0), .int (0)])) := ⟨_, rfl⟩
  refine gj_mem eC1 ?_
  have f2 : C1 (1) = .inr (0, [.ref (2), .ref (x), .ref (q), .ref (23), .int (nI mk), .ref (24), .ref (65), .ref (66)]) := by rw [eC1, va_up_ne _ _ (by omega)]; exact o1
  have f3 : C1 (23) = .inl (3, 20, .inr (.inr (.inr (.inr sh)))) := by rw [eC1, va_up_ne _ _ (by omega)]; exact hsh
  have f4 : C1 (n + 1) = .inr (4, [.int (0), .int (0), .int (0), .int (0), .int (0), .int (0)]) := by rw [eC1]; exact va_up_self _ _ _
  refine gj_dup d_RB_shipment_51 rfl ?_
  refine gj_iload_n d_RB_shipment_52 rfl ?_
  refine gj_iload_n d_RB_shipment_53 rfl ?_
  refine gj_iload_n d_RB_shipment_54 rfl ?_
  refine gj_callI (x := n + 1) (as := [.int (z), .int (g), .int (v)]) (rest := [.ref (n + 1), .int (nI mk), .ref (23)]) (K1 := 0) (N1 := 0) d_RB_shipment_55 mo_Sh_init rfl rfl rfl gw_347 gw_345 gw_346 pl_Sh_init (Nat.le_of_ble_eq_true rfl) (Nat.le_of_ble_eq_true rfl) (by omega) (by omega) (c_Sh_init f4) (fun E n' C' _ h => by obtain ⟨hv, -⟩ := h; exact nomatch hv) (fun v5 n5 C5 _ h5 => ?_)
  obtain ⟨hv5, hn5, u5_0, hr5⟩ := h5
  dsimp only at hv5 hn5 hr5 u5_0
  cases hv5; cases hn5
  have f6 : C5 (1) = .inr (0, [.ref (2), .ref (x), .ref (q), .ref (23), .int (nI mk), .ref (24), .ref (65), .ref (66)]) := (hr5 _ (by omega)).trans f2
  have f7 : C5 (23) = .inl (3, 20, .inr (.inr (.inr (.inr sh)))) := (hr5 _ (by omega)).trans f3
  refine gj_aast d_RB_shipment_58 f7 u5_0 rfl rfl (vp_in_nI (by omega) (by decide)) ?_
  obtain ⟨C8, eC8⟩ : ∃ Z0, Z0 = va_up C5 (23) (.inl (3, 20, .inr (.inr (.inr (.inr (va_up sh (mk) (some (n + 1)))))))) := ⟨_, rfl⟩
  refine gj_mem (eC8.trans (by rw [nI_clamp (by omega)])) ?_
  have f9 : C8 (n + 1) = .inr (4, [.int (z), .int (g), .int (v), .int (-1), .int (-1), .int (-1)]) := by rw [eC8, va_up_ne _ _ (by omega)]; exact u5_0
  have f10 : C8 (1) = .inr (0, [.ref (2), .ref (x), .ref (q), .ref (23), .int (nI mk), .ref (24), .ref (65), .ref (66)]) := by rw [eC8, va_up_ne _ _ (by omega)]; exact f6
  have f11 : C8 (23) = .inl (3, 20, .inr (.inr (.inr (.inr (va_up sh (mk) (some (n + 1))))))) := by rw [eC8]; exact va_up_self _ _ _
  refine gj_aload_n d_RB_shipment_59 rfl ?_
  refine gj_dup d_RB_shipment_60 rfl ?_
  refine gj_get d_RB_shipment_61 gf_RB_32 f10 rfl ?_
  refine gj_kc (v := 1) d_RB_shipment_64 (by decide) ?_
  refine gj_iadd d_RB_shipment_65 ?_
  refine gj_top (y := nI (mk + 1)) (nI_add (mk) (1)) ?_
  refine gj_put d_RB_shipment_66 gp_RB_32 f10 (Nat.le_of_ble_eq_true rfl) (fun _ => rfl) (fun _ => rfl) ?_
  obtain ⟨C12, eC12⟩ : ∃ Z0, Z0 = va_up C8 (1) (.inr (0, [.ref (2), .ref (x), .ref (q), .ref (23), .int (nI (mk + 1)), .ref (24), .ref (65), .ref (66)])) := ⟨_, rfl⟩
  refine gj_mem eC12 ?_
  have f13 : C12 (n + 1) = .inr (4, [.int (z), .int (g), .int (v), .int (-1), .int (-1), .int (-1)]) := by rw [eC12, va_up_ne _ _ (by omega)]; exact f9
  have f14 : C12 (1) = .inr (0, [.ref (2), .ref (x), .ref (q), .ref (23), .int (nI (mk + 1)), .ref (24), .ref (65), .ref (66)]) := by rw [eC12]; exact va_up_self _ _ _
  have f15 : C12 (23) = .inl (3, 20, .inr (.inr (.inr (.inr (va_up sh (mk) (some (n + 1))))))) := by rw [eC12, va_up_ne _ _ (by omega)]; exact f11
  refine gj_aload_n d_RB_shipment_69 rfl ?_
  refine gj_get d_RB_shipment_70 gf_RB_32 f14 rfl ?_
  refine gj_kc (v := 1) d_RB_shipment_73 (by decide) ?_
  refine gj_isub d_RB_shipment_74 ?_
  refine gj_top (y := nI mk) (nI_pred mk) ?_
  refine gj_iret rfl (by omega) (by omega) d_RB_shipment_75 ?_
  exact ⟨rfl, rfl, f14, f15, f13, fun y a1 a2 a3 => by show C12 y = C y; rw [eC12, va_up_ne _ _ (by omega)]; rw [eC8, va_up_ne _ _ (by omega)]; rw [hr5 y (by omega)]; rw [eC1, va_up_ne _ _ (by omega)]⟩
