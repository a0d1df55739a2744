def gj_vv : Option Value ⊕ String := .inl none
def gj_lv2 (v : Int64) : Option Value ⊕ String := .inl (some (.long v))
theorem pt_nd_in (f : Nat → Int32) (ln : Nat) : ∀ m q, pt_nd f ln q m = 0 ∨ q + pt_nd f ln q m ≤ ln
  | 0, _ => Or.inl rfl
  | m + 1, q => by
    unfold pt_nd
    split
    · rename_i h
      have hq : q < ln := by
        rcases Nat.lt_or_ge q ln with h1 | h1
        · exact h1
        · have e : pt_at f ln q = -1 := if_neg (Nat.not_lt.mpr h1)
          rw [e] at h
          exact absurd h.1 (by decide)
      rcases pt_nd_in f ln m (q + 1) with h2 | h2
      · right; omega
      · right; omega
    · exact Or.inl rfl
theorem pt_np_le {f : Nat → Int32} {ln p : Nat} (h6 : ln ≤ 600) (hp : p ≤ 700) : pt_np f ln p ≤ 700 := by
  unfold pt_np
  split
  · rename_i h
    have hq : p < ln := by
      rcases Nat.lt_or_ge p ln with h1 | h1
      · exact h1
      · have e : pt_at f ln p = -1 := if_neg (Nat.not_lt.mpr h1)
        rw [e] at h
        exact absurd h (by decide)
    rcases pt_nd_in f ln 9 (p + 1) with h2 | h2 <;> omega
  · exact hp
/-- so many numbers from p on: whether all are there, where they end, the row of them -/
noncomputable def pt_run (f : Nat → Int32) (ln : Nat) : Nat → Nat → Nat → (Nat → Int32) → Bool × Nat × (Nat → Int32)
  | 0, _, p, g => (true, p, g)
  | m + 1, i, p, g => if pt_num f ln p = -1 then (false, pt_np f ln p, upd g i (pt_num f ln p)) else pt_run f ln m (i + 1) (pt_np f ln p) (upd g i (pt_num f ln p))
set_option maxHeartbeats 1000000 in
theorem c_Tx_behindLine_loop {d K N n x ln q wn : Nat} {f : Nat → Int32} {Q : gj_R → Prop} (h6 : ln ≤ 600) (hw : wn ≤ 4) : ∀ (m i p : Nat) (g : Nat → Int32) (C : Nat → va_E), i + m = wn → C x = .inr (1, [.ref (x + 1), .ref (x + 2), .int (nI ln), .int (nI p)]) → C (x + 1) = .inl (0, 600, .inl f) → C (x + 2) = .inl (0, 4, .inl g) → p ≤ 700 →
    (∀ (C2 : Nat → va_E) (p2 : Nat) (g2 : Nat → Int32), pt_run f ln m i p g = (true, p2, g2) → C2 x = .inr (1, [.ref (x + 1), .ref (x + 2), .int (nI ln), .int (nI p2)]) → C2 (x + 2) = .inl (0, 4, .inl g2) → (∀ y, y ≠ x → y ≠ x + 2 → C2 y = C y) → gj_G md_Tx_behindLine (d + 2) K N 0 0 57 [(0, .ref x), (1, .int (nI q)), (2, .int (nI wn)), (3, .int (nI wn))] [] n C2 Q) →
    (∀ (C2 : Nat → va_E) (p2 : Nat) (g2 : Nat → Int32), pt_run f ln m i p g = (false, p2, g2) → C2 x = .inr (1, [.ref (x + 1), .ref (x + 2), .int (nI ln), .int (nI p2)]) → C2 (x + 2) = .inl (0, 4, .inl g2) → (∀ y, y ≠ x → y ≠ x + 2 → C2 y = C y) → Q (gj_iv (-1), n, C2)) →
    gj_G md_Tx_behindLine (d + 2) K N 0 0 24 [(0, .ref x), (1, .int (nI q)), (2, .int (nI wn)), (3, .int (nI i))] [] n C Q := by
  intro m
  induction m with
  | zero =>
    intro i p g C hi hx hs hn hp hok hno
    have hi : i = wn := hi
    subst hi
    refine gj_iload_n d_Tx_behindLine_24 rfl ?_
    refine gj_iload_n d_Tx_behindLine_25 rfl ?_
    exact gj_icmp_ge (tgt := 57) d_Tx_behindLine_26 (by decide) (fun _ => hok C p g rfl hx hn (fun _ _ _ => rfl)) (fun h26 => absurd (nI_le (Nat.le_refl i) (by omega)) h26)
  | succ m ih =>
    intro i p g C hi hx hs hn hp hok hno
    refine gj_iload_n d_Tx_behindLine_24 rfl ?_
    refine gj_iload_n d_Tx_behindLine_25 rfl ?_
    refine gj_icmp_ge (tgt := 57) d_Tx_behindLine_26 (by decide) (fun h26 => absurd h26 (nI_ge (b := wn) (by omega) (by omega))) (fun h26 => ?_)
    refine gj_aload_n d_Tx_behindLine_29 rfl ?_
    refine gj_get d_Tx_behindLine_30 gf_Tx_15 hx rfl ?_
    refine gj_iload_n d_Tx_behindLine_33 rfl ?_
    refine gj_aload_n d_Tx_behindLine_34 rfl ?_
    refine gj_callV (as := []) (rest := [.int (nI i), .ref (x + 2)]) (K1 := 0) (N1 := 0) d_Tx_behindLine_35 mo_Tx_takeNumber gw_181 gw_183 gw_1 hx rfl pl_Tx_takeNumber (Nat.le_of_ble_eq_true rfl) (Nat.le_of_ble_eq_true rfl) (Nat.zero_le _) (Nat.zero_le _) (c_Tx_takeNumber hx hs h6 hp) (fun E n' C' _ h => by obtain ⟨hv, -⟩ := h; exact nomatch hv) (fun v1 n1 C1 _ h1 => ?_)
    obtain ⟨hv1, hn1, u1_0, hr1⟩ := h1
    dsimp only [gj_iv, gj_vv, gj_lv2] at hv1 hn1 hr1 u1_0
    cases hv1; cases hn1
    have f2 : C1 (x + 1) = .inl (0, 600, .inl f) := (hr1 _ (by omega)).trans hs
    have f3 : C1 (x + 2) = .inl (0, 4, .inl g) := (hr1 _ (by omega)).trans hn
    refine gj_iast d_Tx_behindLine_38 f3 rfl (vp_in_nI (by omega) (by decide)) ?_
    obtain ⟨C4, eC4⟩ : ∃ z, z = va_up C1 (x + 2) (.inl (0, 4, .inl (upd g (nI i : Int32).toNatClampNeg (pt_num f ln p)))) := ⟨_, rfl⟩
    refine gj_mem eC4 ?_
    have f5 : C4 (x) = .inr (1, [.ref (x + 1), .ref (x + 2), .int (nI ln), .int (nI (pt_np f ln p))]) := by rw [eC4, va_up_ne _ _ (by omega)]; exact u1_0
    have f6 : C4 (x + 1) = .inl (0, 600, .inl f) := by rw [eC4, va_up_ne _ _ (by omega)]; exact f2
    have f7 : C4 (x + 2) = .inl (0, 4, .inl (upd g (nI i : Int32).toNatClampNeg (pt_num f ln p))) := by rw [eC4]; exact va_up_self _ _ _
    refine gj_aload_n d_Tx_behindLine_39 rfl ?_
    refine gj_get d_Tx_behindLine_40 gf_Tx_15 f5 rfl ?_
    refine gj_iload_n d_Tx_behindLine_43 rfl ?_
    refine gj_iald d_Tx_behindLine_44 f7 rfl (vp_in_nI (by omega) (by decide)) ?_
    refine gj_top (y := pt_num f ln p) (pk_us) ?_
    refine gj_kc (v := (-1)) d_Tx_behindLine_45 (by decide) ?_
    refine gj_icmp_ne (tgt := 51) d_Tx_behindLine_46 (by decide) (fun h46 => ?_) (fun h46 => ?_)
    · refine gj_iinc d_Tx_behindLine_51 rfl (by decide) ?_
      refine gj_goto (tgt := 24) d_Tx_behindLine_54 (by decide) ?_
      have k1 : C4 (x + 2) = .inl (0, 4, .inl (upd g i (pt_num f ln p))) := by rw [← nI_clamp (n := i) (by omega)]; exact f7
      have k2 : ∀ y, y ≠ x → y ≠ x + 2 → C4 y = C y := fun y h1 h2 => by rw [eC4, va_up_ne _ _ h2]; exact hr1 y h1
      refine gj_less (lc' := [(0, .ref (x)), (1, .int (nI q)), (2, .int (nI wn)), (3, .int (nI i + 1))]) ⟨rfl, rfl, rfl, rfl, trivial⟩ ?_
      rw [nI_1]
      refine ih (i + 1) _ _ C4 (by omega) f5 f6 k1 (pt_np_le h6 hp) (fun C2 p2 g2 e0 e1 e2 e3 => hok C2 p2 g2 ?_ e1 e2 (fun y h1 h2 => (e3 y h1 h2).trans (k2 y h1 h2))) (fun C2 p2 g2 e0 e1 e2 e3 => hno C2 p2 g2 ?_ e1 e2 (fun y h1 h2 => (e3 y h1 h2).trans (k2 y h1 h2)))
      · unfold pt_run; rw [if_neg h46]; exact e0
      · unfold pt_run; rw [if_neg h46]; exact e0
    · refine gj_kc (v := (-1)) d_Tx_behindLine_49 (by decide) ?_
      refine gj_iret rfl (Nat.zero_le _) (Nat.zero_le _) d_Tx_behindLine_50 ?_
      have k1 : C4 (x + 2) = .inl (0, 4, .inl (upd g i (pt_num f ln p))) := by rw [← nI_clamp (n := i) (by omega)]; exact f7
      have k2 : ∀ y, y ≠ x → y ≠ x + 2 → C4 y = C y := fun y h1 h2 => by rw [eC4, va_up_ne _ _ h2]; exact hr1 y h1
      exact hno C4 _ _ (by unfold pt_run; rw [if_pos h46]) f5 k1 k2
