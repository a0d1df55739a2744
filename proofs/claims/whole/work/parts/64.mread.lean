/-! RateBreaksModel: read -/
noncomputable def pm_nx (tx : Nat → Int32) (sg nl p : Nat) (nr : Nat → Int32) : Nat → Int32 := upd (pm_run tx sg (pt_nbN (pt_at tx sg p)) (5 * nl + 1) (p + 1) nr).2.2 (5 * nl) (pt_at tx sg p)
noncomputable def pm_nxp (tx : Nat → Int32) (sg nl p : Nat) (nr : Nat → Int32) : Nat := (pm_run tx sg (pt_nbN (pt_at tx sg p)) (5 * nl + 1) (p + 1) nr).2.1 + 1
noncomputable def pm_rd (tx : Nat → Int32) (sg : Nat) : Nat → Nat → Nat → (Nat → Int32) → Option ((Nat → Int32) × Nat) × Nat
  | 0, nl, p, nr => if p < sg then (none, p) else (some (nr, nl), p)
  | m + 1, nl, p, nr => if p < sg then (@ite _ (pm_acc tx sg nl p nr) (Classical.propDecidable _) (pm_rd tx sg m (nl + 1) (pm_nxp tx sg nl p nr) (pm_nx tx sg nl p nr)) (none, p)) else (some (nr, nl), p)
theorem pm_nxp_le {tx : Nat → Int32} {sg nl p : Nat} {nr : Nat → Int32} (h : pm_acc tx sg nl p nr) : pm_nxp tx sg nl p nr ≤ sg := pt_at_lt (by rw [h.2.2.2.1]; decide)
/-- the first i places are those of g -/
def pm_cp (f g : Nat → Int32) (i : Nat) : Nat → Int32 := fun j => if j < i then g j else f j
theorem pm_cp_0 (f g : Nat → Int32) : pm_cp f g 0 = f := by funext j; exact if_neg (Nat.not_lt_zero j)
theorem pm_cp_s (f g : Nat → Int32) (i : Nat) : upd (pm_cp f g i) i (g i) = pm_cp f g (i + 1) := by
  funext j
  by_cases h : j = i
  · subst h; rw [upd_self]; exact (if_pos (Nat.lt_succ_self j)).symm
  · rw [upd_ne _ _ h]
    unfold pm_cp
    by_cases h2 : j < i
    · rw [if_pos h2, if_pos (by omega)]
    · rw [if_neg h2, if_neg (by omega)]
set_option maxHeartbeats 4000000 in
theorem c_Mo_read_l1 {d K N n sg li ns dy : Nat} {tx : Nat → Int32} (hsg : sg ≤ 600) {Q : gj_R → Prop} : ∀ (m : Nat) (nl b p : Nat) (nr : Nat → Int32) (C : Nat → va_E), nl + m = 60 → p ≤ 600 → C 70 = .inr (5, [.int (0), .ref (71), .int (nI sg), .int (nI li), .ref (72), .int (nI nl), .ref (73), .int (nI p), .int (nI ns), .ref (74), .ref (75), .ref (76), .ref (77), .ref (78), .ref (79), .ref (80), .ref (81), .ref (82), .ref (83), .ref (84), .int (nI dy), .ref (85), .ref (86), .ref (87), .ref (88), .ref (89), .ref (90)]) → C 71 = .inl (0, 600, .inl tx) → C 73 = .inl (0, 300, .inl nr) → (∀ (C2 : Nat → va_E) (l2 p2 p3 b2 : Nat) (g2 : Nat → Int32), pm_rd tx sg m nl p nr = (some (g2, l2), p3) → l2 ≤ 60 → C2 70 = .inr (5, [.int (0), .ref (71), .int (nI sg), .int (nI li), .ref (72), .int (nI l2), .ref (73), .int (nI p2), .int (nI ns), .ref (74), .ref (75), .ref (76), .ref (77), .ref (78), .ref (79), .ref (80), .ref (81), .ref (82), .ref (83), .ref (84), .int (nI dy), .ref (85), .ref (86), .ref (87), .ref (88), .ref (89), .ref (90)]) → C2 73 = .inl (0, 300, .inl g2) → (∀ y, y ≠ 70 → y ≠ 73 → C2 y = C y) → gj_G md_Mo_read (d + 3) K N 0 0 47 [(0, .ref 70), (1, .int (nI b2)), (2, .int 1)] [] n C2 Q) → (∀ (C2 : Nat → va_E) (p2 l2 b2 : Nat) (g2 : Nat → Int32), pm_rd tx sg m nl p nr = (none, b2) → b2 ≤ 600 → C2 70 = .inr (5, [.int (0), .ref (71), .int (nI sg), .int (nI li), .ref (72), .int (nI l2), .ref (73), .int (nI p2), .int (nI ns), .ref (74), .ref (75), .ref (76), .ref (77), .ref (78), .ref (79), .ref (80), .ref (81), .ref (82), .ref (83), .ref (84), .int (nI dy), .ref (85), .ref (86), .ref (87), .ref (88), .ref (89), .ref (90)]) → C2 73 = .inl (0, 300, .inl g2) → (∀ y, y ≠ 70 → y ≠ 73 → C2 y = C y) → gj_G md_Mo_read (d + 3) K N 0 0 47 [(0, .ref 70), (1, .int (nI b2)), (2, .int 0)] [] n C2 Q) → gj_G md_Mo_read (d + 3) K N 0 0 19 [(0, .ref (70)), (1, .int (nI b)), (2, .int (1))] [] n C Q := by
  intro m
  induction m with
  | zero =>
    intro nl b p nr C hm hp m70 m71 m73 hok hno
    refine gj_aload_n d_Mo_read_19 rfl ?_
    refine gj_get d_Mo_read_20 gf_Mo_32 m70 rfl ?_
    refine gj_aload_n d_Mo_read_23 rfl ?_
    refine gj_get d_Mo_read_24 gf_Mo_17 m70 rfl ?_
    refine gj_icmp_ge (tgt := 47) d_Mo_read_27 (by decide) (fun h27 => ?_) (fun h27 => ?_)
    · have m27 : sg ≤ p := (nI_leI (a := sg) (b := p) (by omega) (by omega)).mp h27
      refine gj_less (lc' := [(0, .ref (70)), (1, .int (nI b)), (2, .int (1))]) ⟨rfl, rfl, rfl, trivial⟩ ?_
      exact hok C nl p p b nr (if_neg (by omega)) (by omega) m70 m73 (fun _ _ _ => rfl)
    · have m27 : ¬ (sg ≤ p) := fun q => h27 ((nI_leI (a := sg) (b := p) (by omega) (by omega)).mpr q)
      refine gj_iload_n d_Mo_read_30 rfl ?_
      refine gj_if_eq (tgt := 47) d_Mo_read_31 (by decide) (fun h31 => absurd h31 (by decide)) (fun h31 => ?_)
      refine gj_aload_n d_Mo_read_34 rfl ?_
      refine gj_get d_Mo_read_35 gf_Mo_32 m70 rfl ?_
      refine gj_istore_n d_Mo_read_38 (by decide) ?_
      refine gj_aload_n d_Mo_read_39 rfl ?_
      refine gj_callV (as := []) (rest := []) (K1 := 0) (N1 := 0) d_Mo_read_40 mo_Mo_oneLine gw_694 gw_696 gw_9 m70 rfl pl_Mo_oneLine (Nat.le_of_ble_eq_true rfl) (Nat.le_of_ble_eq_true rfl) (Nat.zero_le _) (Nat.zero_le _) (c_Mo_oneLine m70 m71 m73 hsg hp (by omega)) (fun E n2 C2 _ h => ?_) (fun v n2 C2 _ h => ?_)
      · obtain ⟨-, -, h | h⟩ := h
        · exact nomatch h.2.1
        · exact nomatch h.2.1
      obtain ⟨hn, hfr, h | h⟩ := h
      · obtain ⟨h0, hv, z70, z73⟩ := h
        have := h0.1
        omega
      · obtain ⟨h0, hv, p2, g2, z70, z73⟩ := h
        dsimp only [gj_iv] at hv hn
        cases hv; cases hn
        refine gj_istore_n d_Mo_read_43 (by decide) ?_
        refine gj_goto (tgt := 19) d_Mo_read_44 (by decide) ?_
        have e : pm_rd tx sg 0 nl p nr = (none, p) := if_pos (by omega)
        refine gj_aload_n d_Mo_read_19 rfl ?_
        refine gj_get d_Mo_read_20 gf_Mo_32 z70 rfl ?_
        refine gj_aload_n d_Mo_read_23 rfl ?_
        refine gj_get d_Mo_read_24 gf_Mo_17 z70 rfl ?_
        refine gj_icmp_ge (tgt := 47) d_Mo_read_27 (by decide) (fun _ => ?_) (fun _ => ?_)
        · refine gj_less (lc' := [(0, .ref (70)), (1, .int (nI p)), (2, .int (0))]) ⟨rfl, rfl, rfl, trivial⟩ ?_
          exact hno C2 p2 nl p g2 e hp z70 z73 hfr
        · refine gj_iload_n d_Mo_read_30 rfl ?_
          refine gj_if_eq (tgt := 47) d_Mo_read_31 (by decide) (fun _ => ?_) (fun h => absurd rfl h)
          refine gj_less (lc' := [(0, .ref (70)), (1, .int (nI p)), (2, .int (0))]) ⟨rfl, rfl, rfl, trivial⟩ ?_
          exact hno C2 p2 nl p g2 e hp z70 z73 hfr
  | succ m ih =>
    intro nl b p nr C hm hp m70 m71 m73 hok hno
    refine gj_aload_n d_Mo_read_19 rfl ?_
    refine gj_get d_Mo_read_20 gf_Mo_32 m70 rfl ?_
    refine gj_aload_n d_Mo_read_23 rfl ?_
    refine gj_get d_Mo_read_24 gf_Mo_17 m70 rfl ?_
    refine gj_icmp_ge (tgt := 47) d_Mo_read_27 (by decide) (fun h27 => ?_) (fun h27 => ?_)
    · have m27 : sg ≤ p := (nI_leI (a := sg) (b := p) (by omega) (by omega)).mp h27
      refine gj_less (lc' := [(0, .ref (70)), (1, .int (nI b)), (2, .int (1))]) ⟨rfl, rfl, rfl, trivial⟩ ?_
      exact hok C nl p p b nr (if_neg (by omega)) (by omega) m70 m73 (fun _ _ _ => rfl)
    · have m27 : ¬ (sg ≤ p) := fun q => h27 ((nI_leI (a := sg) (b := p) (by omega) (by omega)).mpr q)
      refine gj_iload_n d_Mo_read_30 rfl ?_
      refine gj_if_eq (tgt := 47) d_Mo_read_31 (by decide) (fun h31 => absurd h31 (by decide)) (fun h31 => ?_)
      refine gj_aload_n d_Mo_read_34 rfl ?_
      refine gj_get d_Mo_read_35 gf_Mo_32 m70 rfl ?_
      refine gj_istore_n d_Mo_read_38 (by decide) ?_
      refine gj_aload_n d_Mo_read_39 rfl ?_
      refine gj_callV (as := []) (rest := []) (K1 := 0) (N1 := 0) d_Mo_read_40 mo_Mo_oneLine gw_694 gw_696 gw_9 m70 rfl pl_Mo_oneLine (Nat.le_of_ble_eq_true rfl) (Nat.le_of_ble_eq_true rfl) (Nat.zero_le _) (Nat.zero_le _) (c_Mo_oneLine m70 m71 m73 hsg hp (by omega)) (fun E n2 C2 _ h => ?_) (fun v n2 C2 _ h => ?_)
      · obtain ⟨-, -, h | h⟩ := h
        · exact nomatch h.2.1
        · exact nomatch h.2.1
      obtain ⟨hn, hfr, h | h⟩ := h
      · obtain ⟨h0, hv, z70, z73⟩ := h
        dsimp only [gj_iv] at hv hn
        cases hv; cases hn
        refine gj_istore_n d_Mo_read_43 (by decide) ?_
        refine gj_goto (tgt := 19) d_Mo_read_44 (by decide) ?_
        have e : pm_rd tx sg (m + 1) nl p nr = pm_rd tx sg m (nl + 1) (pm_nxp tx sg nl p nr) (pm_nx tx sg nl p nr) := (if_pos (by omega)).trans (if_pos h0)
        have b71 : C2 71 = .inl (0, 600, .inl tx) := (hfr _ (by decide) (by decide)).trans m71
        have hple := pm_nxp_le h0
        refine gj_less (lc' := [(0, .ref (70)), (1, .int (nI p)), (2, .int (1))]) ⟨rfl, rfl, rfl, trivial⟩ ?_
        refine ih (nl + 1) p (pm_nxp tx sg nl p nr) (pm_nx tx sg nl p nr) C2 (by omega) (by omega) z70 b71 z73 (fun C3 l2 p2 p3 b2 g2 a0 a1 a2 a3 a4 => hok C3 l2 p2 p3 b2 g2 (e.trans a0) a1 a2 a3 (fun y c1 c2 => (a4 y c1 c2).trans (hfr y c1 c2))) (fun C3 p2 l2 b2 g2 a0 a1 a2 a3 a4 => hno C3 p2 l2 b2 g2 (e.trans a0) a1 a2 a3 (fun y c1 c2 => (a4 y c1 c2).trans (hfr y c1 c2)))
      · obtain ⟨h0, hv, p2, g2, z70, z73⟩ := h
        dsimp only [gj_iv] at hv hn
        cases hv; cases hn
        refine gj_istore_n d_Mo_read_43 (by decide) ?_
        refine gj_goto (tgt := 19) d_Mo_read_44 (by decide) ?_
        have e : pm_rd tx sg (m + 1) nl p nr = (none, p) := (if_pos (by omega)).trans (if_neg h0)
        refine gj_aload_n d_Mo_read_19 rfl ?_
        refine gj_get d_Mo_read_20 gf_Mo_32 z70 rfl ?_
        refine gj_aload_n d_Mo_read_23 rfl ?_
        refine gj_get d_Mo_read_24 gf_Mo_17 z70 rfl ?_
        refine gj_icmp_ge (tgt := 47) d_Mo_read_27 (by decide) (fun _ => ?_) (fun _ => ?_)
        · refine gj_less (lc' := [(0, .ref (70)), (1, .int (nI p)), (2, .int (0))]) ⟨rfl, rfl, rfl, trivial⟩ ?_
          exact hno C2 p2 nl p g2 e hp z70 z73 hfr
        · refine gj_iload_n d_Mo_read_30 rfl ?_
          refine gj_if_eq (tgt := 47) d_Mo_read_31 (by decide) (fun _ => ?_) (fun h => absurd rfl h)
          refine gj_less (lc' := [(0, .ref (70)), (1, .int (nI p)), (2, .int (0))]) ⟨rfl, rfl, rfl, trivial⟩ ?_
          exact hno C2 p2 nl p g2 e hp z70 z73 hfr
set_option maxHeartbeats 2000000 in
theorem c_Mo_read_l2 {d K N n l2 p2 ns dy : Nat} {lr g2 : Nat → Int32} (hl2 : l2 ≤ 60) {Q : gj_R → Prop} : ∀ (m : Nat) (k : Nat) (C : Nat → va_E), k + m = 5 * l2 → C 70 = .inr (5, [.int (0), .ref (71), .int (0), .int (nI l2), .ref (72), .int (nI l2), .ref (73), .int (nI p2), .int (nI ns), .ref (74), .ref (75), .ref (76), .ref (77), .ref (78), .ref (79), .ref (80), .ref (81), .ref (82), .ref (83), .ref (84), .int (nI dy), .ref (85), .ref (86), .ref (87), .ref (88), .ref (89), .ref (90)]) → C 72 = .inl (0, 300, .inl (pm_cp lr g2 k)) → C 73 = .inl (0, 300, .inl g2) → (∀ C2, C2 70 = .inr (5, [.int (0), .ref (71), .int (0), .int (nI l2), .ref (72), .int (nI l2), .ref (73), .int (nI p2), .int (nI ns), .ref (74), .ref (75), .ref (76), .ref (77), .ref (78), .ref (79), .ref (80), .ref (81), .ref (82), .ref (83), .ref (84), .int (nI dy), .ref (85), .ref (86), .ref (87), .ref (88), .ref (89), .ref (90)]) → C2 72 = .inl (0, 300, .inl (pm_cp lr g2 (5 * l2))) → (∀ y, y ≠ 72 → C2 y = C y) → Q (gj_iv (nI l2), n, C2)) → gj_G md_Mo_read (d + 3) K N 0 0 70 [(0, .ref (70)), (3, .int (nI k))] [] (n) C Q := by
  intro m
  induction m with
  | zero =>
    intro k C hm m70 m72 m73 hend
    refine gj_iload_n d_Mo_read_70 rfl ?_
    refine gj_kc (v := 5) d_Mo_read_71 (by decide) ?_
    refine gj_aload_n d_Mo_read_72 rfl ?_
    refine gj_get d_Mo_read_73 gf_Mo_20 m70 rfl ?_
    refine gj_imul d_Mo_read_76 ?_
    refine gj_top (y := nI (5 * l2)) (nI_mul (5) (l2)) ?_
    refine gj_icmp_ge (tgt := 98) d_Mo_read_77 (by decide) (fun h77 => ?_) (fun h77 => by have m77 : ¬ (5 * l2 ≤ k) := fun q => h77 ((nI_leI (a := 5 * l2) (b := k) (by omega) (by omega)).mpr q); exact absurd (show 5 * l2 ≤ k from by omega) m77)
    have m77 : 5 * l2 ≤ k := (nI_leI (a := 5 * l2) (b := k) (by omega) (by omega)).mp h77
    refine gj_aload_n d_Mo_read_98 rfl ?_
    refine gj_get d_Mo_read_99 gf_Mo_20 m70 rfl ?_
    refine gj_iret rfl (Nat.zero_le _) (Nat.zero_le _) d_Mo_read_102 ?_
    have hk : k = 5 * l2 := by omega
    subst hk
    exact hend C m70 m72 (fun _ _ => rfl)
  | succ m ih =>
    intro k C hm m70 m72 m73 hend
    refine gj_iload_n d_Mo_read_70 rfl ?_
    refine gj_kc (v := 5) d_Mo_read_71 (by decide) ?_
    refine gj_aload_n d_Mo_read_72 rfl ?_
    refine gj_get d_Mo_read_73 gf_Mo_20 m70 rfl ?_
    refine gj_imul d_Mo_read_76 ?_
    refine gj_top (y := nI (5 * l2)) (nI_mul (5) (l2)) ?_
    refine gj_icmp_ge (tgt := 98) d_Mo_read_77 (by decide) (fun h77 => by have m77 : 5 * l2 ≤ k := (nI_leI (a := 5 * l2) (b := k) (by omega) (by omega)).mp h77; exact absurd m77 (show ¬ (5 * l2 ≤ k) from by omega)) (fun h77 => ?_)
    have m77 : ¬ (5 * l2 ≤ k) := fun q => h77 ((nI_leI (a := 5 * l2) (b := k) (by omega) (by omega)).mpr q)
    refine gj_aload_n d_Mo_read_80 rfl ?_
    refine gj_get d_Mo_read_81 gf_Mo_23 m70 rfl ?_
    refine gj_iload_n d_Mo_read_84 rfl ?_
    refine gj_aload_n d_Mo_read_85 rfl ?_
    refine gj_get d_Mo_read_86 gf_Mo_29 m70 rfl ?_
    refine gj_iload_n d_Mo_read_89 rfl ?_
    refine gj_iald d_Mo_read_90 m73 rfl (vp_in_nI (by omega) (by decide)) ?_
    refine gj_top (y := g2 (k)) (congrArg g2 (nI_clamp (by omega))) ?_
    refine gj_iast d_Mo_read_91 m72 rfl (vp_in_nI (by omega) (by decide)) ?_
    obtain ⟨C1, eC1⟩ : ∃ Z0, Z0 = va_up C (72) (.inl (0, 300, .inl (upd (pm_cp lr g2 k) (k) (g2 (k))))) := ⟨_, rfl⟩
    refine gj_mem (eC1.trans (by rw [nI_clamp (by omega)])) ?_
    have f2 : C1 (70) = .inr (5, [.int (0), .ref (71), .int (0), .int (nI l2), .ref (72), .int (nI l2), .ref (73), .int (nI p2), .int (nI ns), .ref (74), .ref (75), .ref (76), .ref (77), .ref (78), .ref (79), .ref (80), .ref (81), .ref (82), .ref (83), .ref (84), .int (nI dy), .ref (85), .ref (86), .ref (87), .ref (88), .ref (89), .ref (90)]) := by rw [eC1, va_up_ne _ _ (by omega)]; exact m70
    have f3 : C1 (72) = .inl (0, 300, .inl (upd (pm_cp lr g2 k) (k) (g2 (k)))) := by rw [eC1]; exact va_up_self _ _ _
    have f4 : C1 (73) = .inl (0, 300, .inl g2) := by rw [eC1, va_up_ne _ _ (by omega)]; exact m73
    refine gj_iincN d_Mo_read_92 rfl (by decide) ?_
    refine gj_goto (tgt := 70) d_Mo_read_95 (by decide) ?_
    refine gj_less (lc' := [(0, .ref (70)), (3, .int (nI (k + 1)))]) ⟨rfl, rfl, trivial⟩ ?_
    refine ih (k + 1) C1 (by omega) f2 (by rw [← pm_cp_s]; exact f3) f4 (fun C3 a1 a2 a3 => hend C3 a1 a2 (fun y hy => (a3 y hy).trans (by rw [eC1, va_up_ne _ _ hy])))
set_option maxHeartbeats 2000000 in
theorem c_Mo_read {d K N n sg li nl ap ns dy : Nat} {tc : Int32} {C : Nat → va_E} {tx lr nr : Nat → Int32} (m70 : C (70) = .inr (5, [.int (tc), .ref (71), .int (nI sg), .int (nI li), .ref (72), .int (nI nl), .ref (73), .int (nI ap), .int (nI ns), .ref (74), .ref (75), .ref (76), .ref (77), .ref (78), .ref (79), .ref (80), .ref (81), .ref (82), .ref (83), .ref (84), .int (nI dy), .ref (85), .ref (86), .ref (87), .ref (88), .ref (89), .ref (90)])) (m71 : C (71) = .inl (0, 600, .inl tx)) (m72 : C (72) = .inl (0, 300, .inl lr)) (m73 : C (73) = .inl (0, 300, .inl nr)) (hsg : sg ≤ 600) {l2 p3 : Nat} {g2 : Nat → Int32} (hR : pm_rd tx sg 60 0 0 nr = (some (g2, l2), p3)) : gj_G md_Mo_read (d + 3) K N 0 0 0 [(0, .ref (70))] [] (n) C (fun r => r.1 = gj_iv (nI l2) ∧ r.2.1 = n ∧ (∃ nl2 p2, r.2.2 70 = .inr (5, [.int (0), .ref (71), .int (0), .int (nI l2), .ref (72), .int (nI nl2), .ref (73), .int (nI p2), .int (nI ns), .ref (74), .ref (75), .ref (76), .ref (77), .ref (78), .ref (79), .ref (80), .ref (81), .ref (82), .ref (83), .ref (84), .int (nI dy), .ref (85), .ref (86), .ref (87), .ref (88), .ref (89), .ref (90)])) ∧ r.2.2 72 = .inl (0, 300, .inl (pm_cp lr g2 (5 * l2))) ∧ (∃ g3, r.2.2 73 = .inl (0, 300, .inl g3)) ∧ ∀ y, y ≠ 70 → y ≠ 72 → y ≠ 73 → r.2.2 y = C y) := by
  refine gj_aload_n d_Mo_read_0 rfl ?_
  refine gj_kc (v := 0) d_Mo_read_1 (by decide) ?_
  refine gj_put d_Mo_read_2 gp_Mo_7 m70 (Nat.le_of_ble_eq_true rfl) (fun _ => rfl) (fun _ => rfl) ?_
  obtain ⟨C1, eC1⟩ : ∃ Z0, Z0 = va_up C (70) (.inr (5, [.int (0), .ref (71), .int (nI sg), .int (nI li), .ref (72), .int (nI nl), .ref (73), .int (nI ap), .int (nI ns), .ref (74), .ref (75), .ref (76), .ref (77), .ref (78), .ref (79), .ref (80), .ref (81), .ref (82), .ref (83), .ref (84), .int (nI dy), .ref (85), .ref (86), .ref (87), .ref (88), .ref (89), .ref (90)])) := ⟨_, rfl⟩
  refine gj_mem eC1 ?_
  have f2 : C1 (70) = .inr (5, [.int (0), .ref (71), .int (nI sg), .int (nI li), .ref (72), .int (nI nl), .ref (73), .int (nI ap), .int (nI ns), .ref (74), .ref (75), .ref (76), .ref (77), .ref (78), .ref (79), .ref (80), .ref (81), .ref (82), .ref (83), .ref (84), .int (nI dy), .ref (85), .ref (86), .ref (87), .ref (88), .ref (89), .ref (90)]) := by rw [eC1]; exact va_up_self _ _ _
  have f3 : C1 (71) = .inl (0, 600, .inl tx) := by rw [eC1, va_up_ne _ _ (by omega)]; exact m71
  have f4 : C1 (72) = .inl (0, 300, .inl lr) := by rw [eC1, va_up_ne _ _ (by omega)]; exact m72
  have f5 : C1 (73) = .inl (0, 300, .inl nr) := by rw [eC1, va_up_ne _ _ (by omega)]; exact m73
  refine gj_aload_n d_Mo_read_5 rfl ?_
  refine gj_kc (v := 0) d_Mo_read_6 (by decide) ?_
  refine gj_put d_Mo_read_7 gp_Mo_26 f2 (Nat.le_of_ble_eq_true rfl) (fun _ => rfl) (fun _ => rfl) ?_
  obtain ⟨C6, eC6⟩ : ∃ Z0, Z0 = va_up C1 (70) (.inr (5, [.int (0), .ref (71), .int (nI sg), .int (nI li), .ref (72), .int (0), .ref (73), .int (nI ap), .int (nI ns), .ref (74), .ref (75), .ref (76), .ref (77), .ref (78), .ref (79), .ref (80), .ref (81), .ref (82), .ref (83), .ref (84), .int (nI dy), .ref (85), .ref (86), .ref (87), .ref (88), .ref (89), .ref (90)])) := ⟨_, rfl⟩
  refine gj_mem eC6 ?_
  have f7 : C6 (70) = .inr (5, [.int (0), .ref (71), .int (nI sg), .int (nI li), .ref (72), .int (0), .ref (73), .int (nI ap), .int (nI ns), .ref (74), .ref (75), .ref (76), .ref (77), .ref (78), .ref (79), .ref (80), .ref (81), .ref (82), .ref (83), .ref (84), .int (nI dy), .ref (85), .ref (86), .ref (87), .ref (88), .ref (89), .ref (90)]) := by rw [eC6]; exact va_up_self _ _ _
  have f8 : C6 (71) = .inl (0, 600, .inl tx) := by rw [eC6, va_up_ne _ _ (by omega)]; exact f3
  have f9 : C6 (72) = .inl (0, 300, .inl lr) := by rw [eC6, va_up_ne _ _ (by omega)]; exact f4
  have f10 : C6 (73) = .inl (0, 300, .inl nr) := by rw [eC6, va_up_ne _ _ (by omega)]; exact f5
  refine gj_aload_n d_Mo_read_10 rfl ?_
  refine gj_kc (v := 0) d_Mo_read_11 (by decide) ?_
  refine gj_put d_Mo_read_12 gp_Mo_32 f7 (Nat.le_of_ble_eq_true rfl) (fun _ => rfl) (fun _ => rfl) ?_
  obtain ⟨C11, eC11⟩ : ∃ Z0, Z0 = va_up C6 (70) (.inr (5, [.int (0), .ref (71), .int (nI sg), .int (nI li), .ref (72), .int (0), .ref (73), .int (0), .int (nI ns), .ref (74), .ref (75), .ref (76), .ref (77), .ref (78), .ref (79), .ref (80), .ref (81), .ref (82), .ref (83), .ref (84), .int (nI dy), .ref (85), .ref (86), .ref (87), .ref (88), .ref (89), .ref (90)])) := ⟨_, rfl⟩
  refine gj_mem eC11 ?_
  have f12 : C11 (70) = .inr (5, [.int (0), .ref (71), .int (nI sg), .int (nI li), .ref (72), .int (0), .ref (73), .int (0), .int (nI ns), .ref (74), .ref (75), .ref (76), .ref (77), .ref (78), .ref (79), .ref (80), .ref (81), .ref (82), .ref (83), .ref (84), .int (nI dy), .ref (85), .ref (86), .ref (87), .ref (88), .ref (89), .ref (90)]) := by rw [eC11]; exact va_up_self _ _ _
  have f13 : C11 (71) = .inl (0, 600, .inl tx) := by rw [eC11, va_up_ne _ _ (by omega)]; exact f8
  have f14 : C11 (72) = .inl (0, 300, .inl lr) := by rw [eC11, va_up_ne _ _ (by omega)]; exact f9
  have f15 : C11 (73) = .inl (0, 300, .inl nr) := by rw [eC11, va_up_ne _ _ (by omega)]; exact f10
  refine gj_kc (v := 0) d_Mo_read_15 (by decide) ?_
  refine gj_istore_n d_Mo_read_16 (by decide) ?_
  refine gj_kc (v := 1) d_Mo_read_17 (by decide) ?_
  refine gj_istore_n d_Mo_read_18 (by decide) ?_
  refine gj_less (lc' := [(0, .ref (70)), (1, .int (nI 0)), (2, .int (1))]) ⟨rfl, rfl, rfl, trivial⟩ ?_
  have zf : ∀ y, y ≠ 70 → C11 y = C y := fun y c1 => by rw [eC11, va_up_ne _ _ c1, eC6, va_up_ne _ _ c1, eC1, va_up_ne _ _ c1]
  refine c_Mo_read_l1 hsg 60 0 0 0 nr C11 (by omega) (by omega) f12 f13 f15 (fun Cq l2 p2 p3 b2 g2 a0 a1 a2 a3 a4 => ?_) (fun Cq p2 l2 b2 g2 a0 a1 a2 a3 a4 => ?_)
  · rw [hR] at a0
    cases a0
    have b72 : Cq 72 = .inl (0, 300, .inl lr) := (a4 _ (by decide) (by decide)).trans f14
    refine gj_aload_n d_Mo_read_47 rfl ?_
    refine gj_kc (v := 0) d_Mo_read_48 (by decide) ?_
    refine gj_put d_Mo_read_49 gp_Mo_17 a2 (Nat.le_of_ble_eq_true rfl) (fun _ => rfl) (fun _ => rfl) ?_
    obtain ⟨C16, eC16⟩ : ∃ Z0, Z0 = va_up Cq (70) (.inr (5, [.int (0), .ref (71), .int (0), .int (nI li), .ref (72), .int (nI l2), .ref (73), .int (nI p2), .int (nI ns), .ref (74), .ref (75), .ref (76), .ref (77), .ref (78), .ref (79), .ref (80), .ref (81), .ref (82), .ref (83), .ref (84), .int (nI dy), .ref (85), .ref (86), .ref (87), .ref (88), .ref (89), .ref (90)])) := ⟨_, rfl⟩
    refine gj_mem eC16 ?_
    have f17 : C16 (70) = .inr (5, [.int (0), .ref (71), .int (0), .int (nI li), .ref (72), .int (nI l2), .ref (73), .int (nI p2), .int (nI ns), .ref (74), .ref (75), .ref (76), .ref (77), .ref (78), .ref (79), .ref (80), .ref (81), .ref (82), .ref (83), .ref (84), .int (nI dy), .ref (85), .ref (86), .ref (87), .ref (88), .ref (89), .ref (90)]) := by rw [eC16]; exact va_up_self _ _ _
    have f18 : C16 (72) = .inl (0, 300, .inl lr) := by rw [eC16, va_up_ne _ _ (by omega)]; exact b72
    have f19 : C16 (73) = .inl (0, 300, .inl g2) := by rw [eC16, va_up_ne _ _ (by omega)]; exact a3
    refine gj_iload_n d_Mo_read_52 rfl ?_
    refine gj_if_ne (tgt := 60) d_Mo_read_53 (by decide) (fun h53 => ?_) (fun h53 => absurd h53 (by decide))
    refine gj_aload_n d_Mo_read_60 rfl ?_
    refine gj_aload_n d_Mo_read_61 rfl ?_
    refine gj_get d_Mo_read_62 gf_Mo_26 f17 rfl ?_
    refine gj_put d_Mo_read_65 gp_Mo_20 f17 (Nat.le_of_ble_eq_true rfl) (fun _ => rfl) (fun _ => rfl) ?_
    obtain ⟨C20, eC20⟩ : ∃ Z0, Z0 = va_up C16 (70) (.inr (5, [.int (0), .ref (71), .int (0), .int (nI l2), .ref (72), .int (nI l2), .ref (73), .int (nI p2), .int (nI ns), .ref (74), .ref (75), .ref (76), .ref (77), .ref (78), .ref (79), .ref (80), .ref (81), .ref (82), .ref (83), .ref (84), .int (nI dy), .ref (85), .ref (86), .ref (87), .ref (88), .ref (89), .ref (90)])) := ⟨_, rfl⟩
    refine gj_mem eC20 ?_
    have f21 : C20 (70) = .inr (5, [.int (0), .ref (71), .int (0), .int (nI l2), .ref (72), .int (nI l2), .ref (73), .int (nI p2), .int (nI ns), .ref (74), .ref (75), .ref (76), .ref (77), .ref (78), .ref (79), .ref (80), .ref (81), .ref (82), .ref (83), .ref (84), .int (nI dy), .ref (85), .ref (86), .ref (87), .ref (88), .ref (89), .ref (90)]) := by rw [eC20]; exact va_up_self _ _ _
    have f22 : C20 (72) = .inl (0, 300, .inl lr) := by rw [eC20, va_up_ne _ _ (by omega)]; exact f18
    have f23 : C20 (73) = .inl (0, 300, .inl g2) := by rw [eC20, va_up_ne _ _ (by omega)]; exact f19
    refine gj_kc (v := 0) d_Mo_read_68 (by decide) ?_
    refine gj_istore_n d_Mo_read_69 (by decide) ?_
    refine gj_less (lc' := [(0, .ref (70)), (3, .int (nI 0))]) ⟨rfl, rfl, trivial⟩ ?_
    refine c_Mo_read_l2 a1 (5 * l2) 0 C20 (by omega) f21 (by rw [pm_cp_0]; exact f22) f23 (fun C3 x1 x2 x3 => ⟨rfl, rfl, ⟨l2, p2, x1⟩, x2, ⟨g2, (x3 _ (by decide)).trans f23⟩, fun y c1 c2 c3 => (x3 y c2).trans ((by rw [eC20, va_up_ne _ _ c1, eC16, va_up_ne _ _ c1] : C20 y = Cq y).trans ((a4 y c1 c3).trans (zf y c1)))⟩)
  · rw [hR] at a0; cases a0
set_option maxHeartbeats 2000000 in
theorem c_Mo_read_no {d K N n sg li nl ap ns dy : Nat} {tc : Int32} {C : Nat → va_E} {tx lr nr : Nat → Int32} (m70 : C (70) = .inr (5, [.int (tc), .ref (71), .int (nI sg), .int (nI li), .ref (72), .int (nI nl), .ref (73), .int (nI ap), .int (nI ns), .ref (74), .ref (75), .ref (76), .ref (77), .ref (78), .ref (79), .ref (80), .ref (81), .ref (82), .ref (83), .ref (84), .int (nI dy), .ref (85), .ref (86), .ref (87), .ref (88), .ref (89), .ref (90)])) (m71 : C (71) = .inl (0, 600, .inl tx)) (m72 : C (72) = .inl (0, 300, .inl lr)) (m73 : C (73) = .inl (0, 300, .inl nr)) (hsg : sg ≤ 600) {b2 : Nat} (hR : pm_rd tx sg 60 0 0 nr = (none, b2)) : gj_G md_Mo_read (d + 3) K N 0 0 0 [(0, .ref (70))] [] (n) C (fun r => r.1 = gj_iv (-1 - nI b2) ∧ r.2.1 = n ∧ (∃ nl2 p2, r.2.2 70 = .inr (5, [.int (0), .ref (71), .int (0), .int (nI li), .ref (72), .int (nI nl2), .ref (73), .int (nI p2), .int (nI ns), .ref (74), .ref (75), .ref (76), .ref (77), .ref (78), .ref (79), .ref (80), .ref (81), .ref (82), .ref (83), .ref (84), .int (nI dy), .ref (85), .ref (86), .ref (87), .ref (88), .ref (89), .ref (90)])) ∧ (∃ g3, r.2.2 73 = .inl (0, 300, .inl g3)) ∧ ∀ y, y ≠ 70 → y ≠ 73 → r.2.2 y = C y) := by
  refine gj_aload_n d_Mo_read_0 rfl ?_
  refine gj_kc (v := 0) d_Mo_read_1 (by decide) ?_
  refine gj_put d_Mo_read_2 gp_Mo_7 m70 (Nat.le_of_ble_eq_true rfl) (fun _ => rfl) (fun _ => rfl) ?_
  obtain ⟨C1, eC1⟩ : ∃ Z0, Z0 = va_up C (70) (.inr (5, [.int (0), .ref (71), .int (nI sg), .int (nI li), .ref (72), .int (nI nl), .ref (73), .int (nI ap), .int (nI ns), .ref (74), .ref (75), .ref (76), .ref (77), .ref (78), .ref (79), .ref (80), .ref (81), .ref (82), .ref (83), .ref (84), .int (nI dy), .ref (85), .ref (86), .ref (87), .ref (88), .ref (89), .ref (90)])) := ⟨_, rfl⟩
  refine gj_mem eC1 ?_
  have f2 : C1 (70) = .inr (5, [.int (0), .ref (71), .int (nI sg), .int (nI li), .ref (72), .int (nI nl), .ref (73), .int (nI ap), .int (nI ns), .ref (74), .ref (75), .ref (76), .ref (77), .ref (78), .ref (79), .ref (80), .ref (81), .ref (82), .ref (83), .ref (84), .int (nI dy), .ref (85), .ref (86), .ref (87), .ref (88), .ref (89), .ref (90)]) := by rw [eC1]; exact va_up_self _ _ _
  have f3 : C1 (71) = .inl (0, 600, .inl tx) := by rw [eC1, va_up_ne _ _ (by omega)]; exact m71
  have f4 : C1 (72) = .inl (0, 300, .inl lr) := by rw [eC1, va_up_ne _ _ (by omega)]; exact m72
  have f5 : C1 (73) = .inl (0, 300, .inl nr) := by rw [eC1, va_up_ne _ _ (by omega)]; exact m73
  refine gj_aload_n d_Mo_read_5 rfl ?_
  refine gj_kc (v := 0) d_Mo_read_6 (by decide) ?_
  refine gj_put d_Mo_read_7 gp_Mo_26 f2 (Nat.le_of_ble_eq_true rfl) (fun _ => rfl) (fun _ => rfl) ?_
  obtain ⟨C6, eC6⟩ : ∃ Z0, Z0 = va_up C1 (70) (.inr (5, [.int (0), .ref (71), .int (nI sg), .int (nI li), .ref (72), .int (0), .ref (73), .int (nI ap), .int (nI ns), .ref (74), .ref (75), .ref (76), .ref (77), .ref (78), .ref (79), .ref (80), .ref (81), .ref (82), .ref (83), .ref (84), .int (nI dy), .ref (85), .ref (86), .ref (87), .ref (88), .ref (89), .ref (90)])) := ⟨_, rfl⟩
  refine gj_mem eC6 ?_
  have f7 : C6 (70) = .inr (5, [.int (0), .ref (71), .int (nI sg), .int (nI li), .ref (72), .int (0), .ref (73), .int (nI ap), .int (nI ns), .ref (74), .ref (75), .ref (76), .ref (77), .ref (78), .ref (79), .ref (80), .ref (81), .ref (82), .ref (83), .ref (84), .int (nI dy), .ref (85), .ref (86), .ref (87), .ref (88), .ref (89), .ref (90)]) := by rw [eC6]; exact va_up_self _ _ _
  have f8 : C6 (71) = .inl (0, 600, .inl tx) := by rw [eC6, va_up_ne _ _ (by omega)]; exact f3
  have f9 : C6 (72) = .inl (0, 300, .inl lr) := by rw [eC6, va_up_ne _ _ (by omega)]; exact f4
  have f10 : C6 (73) = .inl (0, 300, .inl nr) := by rw [eC6, va_up_ne _ _ (by omega)]; exact f5
  refine gj_aload_n d_Mo_read_10 rfl ?_
  refine gj_kc (v := 0) d_Mo_read_11 (by decide) ?_
  refine gj_put d_Mo_read_12 gp_Mo_32 f7 (Nat.le_of_ble_eq_true rfl) (fun _ => rfl) (fun _ => rfl) ?_
  obtain ⟨C11, eC11⟩ : ∃ Z0, Z0 = va_up C6 (70) (.inr (5, [.int (0), .ref (71), .int (nI sg), .int (nI li), .ref (72), .int (0), .ref (73), .int (0), .int (nI ns), .ref (74), .ref (75), .ref (76), .ref (77), .ref (78), .ref (79), .ref (80), .ref (81), .ref (82), .ref (83), .ref (84), .int (nI dy), .ref (85), .ref (86), .ref (87), .ref (88), .ref (89), .ref (90)])) := ⟨_, rfl⟩
  refine gj_mem eC11 ?_
  have f12 : C11 (70) = .inr (5, [.int (0), .ref (71), .int (nI sg), .int (nI li), .ref (72), .int (0), .ref (73), .int (0), .int (nI ns), .ref (74), .ref (75), .ref (76), .ref (77), .ref (78), .ref (79), .ref (80), .ref (81), .ref (82), .ref (83), .ref (84), .int (nI dy), .ref (85), .ref (86), .ref (87), .ref (88), .ref (89), .ref (90)]) := by rw [eC11]; exact va_up_self _ _ _
  have f13 : C11 (71) = .inl (0, 600, .inl tx) := by rw [eC11, va_up_ne _ _ (by omega)]; exact f8
  have f14 : C11 (72) = .inl (0, 300, .inl lr) := by rw [eC11, va_up_ne _ _ (by omega)]; exact f9
  have f15 : C11 (73) = .inl (0, 300, .inl nr) := by rw [eC11, va_up_ne _ _ (by omega)]; exact f10
  refine gj_kc (v := 0) d_Mo_read_15 (by decide) ?_
  refine gj_istore_n d_Mo_read_16 (by decide) ?_
  refine gj_kc (v := 1) d_Mo_read_17 (by decide) ?_
  refine gj_istore_n d_Mo_read_18 (by decide) ?_
  refine gj_less (lc' := [(0, .ref (70)), (1, .int (nI 0)), (2, .int (1))]) ⟨rfl, rfl, rfl, trivial⟩ ?_
  have zf : ∀ y, y ≠ 70 → C11 y = C y := fun y c1 => by rw [eC11, va_up_ne _ _ c1, eC6, va_up_ne _ _ c1, eC1, va_up_ne _ _ c1]
  refine c_Mo_read_l1 hsg 60 0 0 0 nr C11 (by omega) (by omega) f12 f13 f15 (fun Cq l2 p2 p3 b2 g2 a0 a1 a2 a3 a4 => ?_) (fun Cq p2 l2 b2 g2 a0 a1 a2 a3 a4 => ?_)
  · rw [hR] at a0; cases a0
  · rw [hR] at a0
    cases a0
    refine gj_aload_n d_Mo_read_47 rfl ?_
    refine gj_kc (v := 0) d_Mo_read_48 (by decide) ?_
    refine gj_put d_Mo_read_49 gp_Mo_17 a2 (Nat.le_of_ble_eq_true rfl) (fun _ => rfl) (fun _ => rfl) ?_
    obtain ⟨C16, eC16⟩ : ∃ Z0, Z0 = va_up Cq (70) (.inr (5, [.int (0), .ref (71), .int (0), .int (nI li), .ref (72), .int (nI l2), .ref (73), .int (nI p2), .int (nI ns), .ref (74), .ref (75), .ref (76), .ref (77), .ref (78), .ref (79), .ref (80), .ref (81), .ref (82), .ref (83), .ref (84), .int (nI dy), .ref (85), .ref (86), .ref (87), .ref (88), .ref (89), .ref (90)])) := ⟨_, rfl⟩
    refine gj_mem eC16 ?_
    have f17 : C16 (70) = .inr (5, [.int (0), .ref (71), .int (0), .int (nI li), .ref (72), .int (nI l2), .ref (73), .int (nI p2), .int (nI ns), .ref (74), .ref (75), .ref (76), .ref (77), .ref (78), .ref (79), .ref (80), .ref (81), .ref (82), .ref (83), .ref (84), .int (nI dy), .ref (85), .ref (86), .ref (87), .ref (88), .ref (89), .ref (90)]) := by rw [eC16]; exact va_up_self _ _ _
    have f18 : C16 (73) = .inl (0, 300, .inl g2) := by rw [eC16, va_up_ne _ _ (by omega)]; exact a3
    refine gj_iload_n d_Mo_read_52 rfl ?_
    refine gj_if_ne (tgt := 60) d_Mo_read_53 (by decide) (fun h53 => absurd (by decide) h53) (fun h53 => ?_)
    refine gj_kc (v := (-1)) d_Mo_read_56 (by decide) ?_
    refine gj_iload_n d_Mo_read_57 rfl ?_
    refine gj_isub d_Mo_read_58 ?_
    refine gj_iret rfl (Nat.zero_le _) (Nat.zero_le _) d_Mo_read_59 ?_
    exact ⟨rfl, rfl, ⟨l2, p2, f17⟩, ⟨g2, f18⟩, fun y c1 c2 => (by rw [eC16, va_up_ne _ _ c1] : C16 y = Cq y).trans ((a4 y c1 c2).trans (zf y c1))⟩
