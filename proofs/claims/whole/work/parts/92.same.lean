/-! the law: the calls that change nothing -/
set_option maxHeartbeats 1000000 in
theorem s_told {C : Nat → va_E} {n : Nat} (a0 : Int32) (a1 : Int32) (hI : lw_I C n) : lw_st lw_I md_La_told md_Mo_told [.int a0, .int a1] 8 C n := by
  obtain ⟨tc, v0, x, q, ln, li, mk, cs, f, T, sh, fr, up, dn, sz, bk, cf, cu, cd, lr, go, zo, gr, vo, se, pr, le, fm, mu, md, h1, h2, h3, h4, o, o91, ov⟩ := hI
  have h1' := h1
  have h2' := h2
  have h4' := h4
  obtain ⟨hxq, o1, ⟨pp, o2⟩, o3, ⟨g4, o4⟩, oM, ⟨Tq, lq, oQ⟩, o23, ⟨co, o24, hco⟩, o65, oR, oC⟩ := h1'
  obtain ⟨⟨nl, ap, m70⟩, m71, m72, ⟨u73, m73⟩, m74, m75, m76, m77, m78, m79, m80, ⟨cn, m81, hcn⟩, m82, m83, m84, m85, m86, m87, ⟨u88, m88⟩, ⟨u89, m89⟩, ⟨u90, m90⟩⟩ := h2'
  obtain ⟨⟨b1, b2, b3, b4, b5⟩, ⟨T0, t1, t2, t3⟩, r1, r2, r3, r4, r5, r6, r7⟩ := h4'
  cases hp : pr_pn sh a0 with
  | none => exact lw_no (k := 1) (by decide) h1 h2 h3 h4 ⟨o, o91, ov⟩ (h_told_NSE o1 (c_RB_told_x1 o1 o23 (Nat.le_refl 1) (Nat.le_refl 6) hp)) (gj_conseq (c_Mo_told_x1 m70 m74 b3 (lw_pn0 b3 r1 hp)) (fun r h => ⟨h.1, h.2.1, lw_mod_70 h2 h.2.2.1 h.2.2.2, h.2.2.2⟩))
  | some y =>
    obtain ⟨j, hj, e, hg, hy⟩ := lw_pn1 r1 hp
    subst e
    obtain ⟨y1, y2, hY⟩ := h3 j y hy
    by_cases c : 0 ≤ a1 ∧ a1 ≤ 5
    · refine lw_go (v := pc_td (zo j) (gr j) (vo j) (se j) (pr j) (le j) a1) (n1 := n) (o := o) (hc := ?_) (h2 := h2) (hm := ?_) (h4 := h4)
      · refine h_told o1 (gj_conseq (gj_conseq (c_RB_told o1 o23 hY (Nat.le_refl 1) (Nat.le_refl 6) hp) (fun r h => h.1 c)) (fun r h => ?_)) (fun C1 h => (h.2.2 91 (Or.inr ⟨by omega, by omega⟩)).trans o91)
        cases h
        exact ⟨rfl, rfl, h1, h3, fun _ _ => rfl⟩
      · intro C1 g2
        have g2' := g2
        obtain ⟨⟨nl, ap, m70⟩, m71, m72, ⟨u73, m73⟩, m74, m75, m76, m77, m78, m79, m80, ⟨cn, m81, hcn⟩, m82, m83, m84, m85, m86, m87, ⟨u88, m88⟩, ⟨u89, m89⟩, ⟨u90, m90⟩⟩ := g2'
        exact gj_conseq (c_Mo_told m70 m74 m75 m76 m77 m78 m79 m80 b3 hj hg c) (fun r h => ⟨h.1, h.2.1, lw_mod_70 g2 h.2.2.1 h.2.2.2, fun y hy => h.2.2.2 y (by omega)⟩)
    · exact lw_no (k := 2) (by decide) h1 h2 h3 h4 ⟨o, o91, ov⟩ (h_told_IAE o1 (gj_conseq (c_RB_told o1 o23 hY (Nat.le_refl 1) (Nat.le_refl 6) hp) (fun r h => h.2 c))) (gj_conseq (c_Mo_told_x2 (s := 0) m70 m74 b3 hj hg c) (fun r h => ⟨h.1, h.2.1, lw_mod_70 h2 h.2.2.1 h.2.2.2, h.2.2.2⟩))
set_option maxHeartbeats 1000000 in
theorem s_weight {C : Nat → va_E} {n : Nat} (a0 : Int32) (a1 : Int32) (hI : lw_I C n) : lw_st lw_I md_La_weight md_Mo_weight [.int a0, .int a1] 8 C n := by
  obtain ⟨tc, v0, x, q, ln, li, mk, cs, f, T, sh, fr, up, dn, sz, bk, cf, cu, cd, lr, go, zo, gr, vo, se, pr, le, fm, mu, md, h1, h2, h3, h4, o, o91, ov⟩ := hI
  have h1' := h1
  have h2' := h2
  have h4' := h4
  obtain ⟨hxq, o1, ⟨pp, o2⟩, o3, ⟨g4, o4⟩, oM, ⟨Tq, lq, oQ⟩, o23, ⟨co, o24, hco⟩, o65, oR, oC⟩ := h1'
  obtain ⟨⟨nl, ap, m70⟩, m71, m72, ⟨u73, m73⟩, m74, m75, m76, m77, m78, m79, m80, ⟨cn, m81, hcn⟩, m82, m83, m84, m85, m86, m87, ⟨u88, m88⟩, ⟨u89, m89⟩, ⟨u90, m90⟩⟩ := h2'
  obtain ⟨⟨b1, b2, b3, b4, b5⟩, ⟨T0, t1, t2, t3⟩, r1, r2, r3, r4, r5, r6, r7⟩ := h4'
  cases hp : pr_pn sh a0 with
  | none => exact lw_no (k := 1) (by decide) h1 h2 h3 h4 ⟨o, o91, ov⟩ (h_weight_NSE o1 (c_RB_weight_x1 o1 o23 (Nat.le_refl 1) (Nat.le_refl 6) hp)) (gj_conseq (c_Mo_weight_x1 m70 m74 b3 (lw_pn0 b3 r1 hp)) (fun r h => ⟨h.1, h.2.1, lw_mod_70 h2 h.2.2.1 h.2.2.2, h.2.2.2⟩))
  | some y =>
    obtain ⟨j, hj, e, hg, hy⟩ := lw_pn1 r1 hp
    subst e
    obtain ⟨y1, y2, hY⟩ := h3 j y hy
    by_cases c : 0 ≤ a1 ∧ a1 < 10
    case neg => exact lw_no (k := 2) (by decide) h1 h2 h3 h4 ⟨o, o91, ov⟩ (h_weight_IAE o1 (c_RB_weight_x2 o1 o23 (Nat.le_refl 1) (Nat.le_refl 6) hp c)) (gj_conseq (c_Mo_weight_x2 (s := 0) m70 m74 b3 hj hg (fun z => c (lw_ca.mpr z))) (fun r h => ⟨h.1, h.2.1, lw_mod_70 h2 h.2.2.1 h.2.2.2, h.2.2.2⟩))
    obtain ⟨a, ha, e⟩ := lw_ca1 c
    subst e
    obtain ⟨-, ⟨G, q1, q2, q3⟩, ⟨V, w1, w2⟩, -, -⟩ := r3 j hj
    obtain ⟨⟨f1, f2⟩, -⟩ := rt_fd t1 li t3 a ha
    rw [← t2] at f1
    have hw := pw_eq (lr := lr) (o := pl_fd lr 68 (nI a) li 0) (dv := T.2.2.2.2.1 a) (G := G) (V := V) f1 f2 q2 w1
    rw [← q3, ← w2] at hw
    rcases hw with ⟨w3, w4⟩ | ⟨w3, w4, w5⟩
    · exact lw_no (k := 3) (by decide) h1 h2 h3 h4 ⟨o, o91, ov⟩ (h_weight_AE o1 (c_RB_weight_x3 o1 o23 hY oM.1 oM.2.2.2.2.2.1 (Nat.le_refl 1) (Nat.le_refl 6) hp ha w3)) (gj_conseq (c_Mo_weight_x3 m70 m72 m74 m76 m77 b3 b2 hj hg ha w4) (fun r h => ⟨h.1, h.2.1, lw_mod_70 h2 h.2.2.1 h.2.2.2, h.2.2.2⟩))
    · refine lw_go (v := pr_w (T.2.2.2.2.1 a) (gr j) (vo j)) (n1 := n) (o := o) (hc := ?_) (h2 := h2) (hm := ?_) (h4 := h4)
      · refine h_weight o1 (gj_conseq (c_RB_weight o1 o23 hY oM.1 oM.2.2.2.2.2.1 hp ha w3) (fun r h => ?_)) (fun C1 h => (h.2.2 91 (Or.inr ⟨by omega, by omega⟩)).trans o91)
        cases h
        exact ⟨rfl, rfl, h1, h3, fun _ _ => rfl⟩
      · intro C1 g2
        have g2' := g2
        obtain ⟨⟨nl, ap, m70⟩, m71, m72, ⟨u73, m73⟩, m74, m75, m76, m77, m78, m79, m80, ⟨cn, m81, hcn⟩, m82, m83, m84, m85, m86, m87, ⟨u88, m88⟩, ⟨u89, m89⟩, ⟨u90, m90⟩⟩ := g2'
        exact gj_conseq (c_Mo_weight m70 m72 m74 m76 m77 b3 b2 hj hg ha w4) (fun r h => ⟨h.1.trans (by rw [w5]), h.2.1, lw_mod_70 g2 h.2.2.1 h.2.2.2, fun y hy => h.2.2.2 y (by omega)⟩)
set_option maxHeartbeats 1000000 in
theorem s_price {C : Nat → va_E} {n : Nat} (a0 : Int32) (a1 : Int32) (hI : lw_I C n) : lw_st lw_I md_La_price md_Mo_price [.int a0, .int a1] 8 C n := by
  obtain ⟨tc, v0, x, q, ln, li, mk, cs, f, T, sh, fr, up, dn, sz, bk, cf, cu, cd, lr, go, zo, gr, vo, se, pr, le, fm, mu, md, h1, h2, h3, h4, o, o91, ov⟩ := hI
  have h1' := h1
  have h2' := h2
  have h4' := h4
  obtain ⟨hxq, o1, ⟨pp, o2⟩, o3, ⟨g4, o4⟩, oM, ⟨Tq, lq, oQ⟩, o23, ⟨co, o24, hco⟩, o65, oR, oC⟩ := h1'
  obtain ⟨⟨nl, ap, m70⟩, m71, m72, ⟨u73, m73⟩, m74, m75, m76, m77, m78, m79, m80, ⟨cn, m81, hcn⟩, m82, m83, m84, m85, m86, m87, ⟨u88, m88⟩, ⟨u89, m89⟩, ⟨u90, m90⟩⟩ := h2'
  obtain ⟨⟨b1, b2, b3, b4, b5⟩, ⟨T0, t1, t2, t3⟩, r1, r2, r3, r4, r5, r6, r7⟩ := h4'
  cases hp : pr_pn sh a0 with
  | none => exact lw_no (k := 1) (by decide) h1 h2 h3 h4 ⟨o, o91, ov⟩ (h_price_NSE o1 (c_RB_price_x1 o1 o23 (Nat.le_refl 1) (Nat.le_refl 6) hp)) (gj_conseq (c_Mo_price_x1 m70 m74 b3 (lw_pn0 b3 r1 hp)) (fun r h => ⟨h.1, h.2.1, lw_mod_70 h2 h.2.2.1 h.2.2.2, h.2.2.2⟩))
  | some y =>
    obtain ⟨j, hj, e, hg, hy⟩ := lw_pn1 r1 hp
    subst e
    obtain ⟨y1, y2, hY⟩ := h3 j y hy
    by_cases c : 0 ≤ a1 ∧ a1 < 10
    case neg => exact lw_no (k := 2) (by decide) h1 h2 h3 h4 ⟨o, o91, ov⟩ (h_price_IAE o1 (c_RB_price_x2 o1 o23 (Nat.le_refl 1) (Nat.le_refl 6) hp c)) (gj_conseq (c_Mo_price_x2 (s := 0) m70 m74 b3 hj hg (fun z => c (lw_ca.mpr z))) (fun r h => ⟨h.1, h.2.1, lw_mod_70 h2 h.2.2.1 h.2.2.2, h.2.2.2⟩))
    obtain ⟨a, ha, e⟩ := lw_ca1 c
    subst e
    rcases lw_price h4 hj hg ha hy with ⟨p1, p2, p3⟩ | ⟨p1, P, p2, p3, p4⟩
    · exact lw_no (k := 3) (by decide) h1 h2 h3 h4 ⟨o, o91, ov⟩ (h_price_AE o1 (c_RB_price_x3 o1 o23 hY (Nat.le_refl 1) (Nat.le_refl 6) hp ha (p2 C n 3 h1 h3))) (gj_conseq (c_Mo_price_x3 m70 m74 b3 hj hg ha (P := -2) (fun C2 tc2 e70 e => p3 C2 n 5 tc2 (lw_mod_70 h2 e70 e)) rfl) (fun r h => ⟨h.1, h.2.1, lw_mod_70 h2 h.2.2.1 h.2.2.2, h.2.2.2⟩))
    · have p5 : ¬ P = -2 := by
        rcases p2 with z | ⟨Q, z1, z⟩
        · rw [z]; decide
        · rw [z]; intro e; have := nI_pos (n := Q) (by omega); rw [e] at this; exact this (by decide)
      refine lw_go (v := P) (n1 := n) (o := o) (hc := ?_) (h2 := h2) (hm := ?_) (h4 := h4)
      · refine h_price o1 (gj_conseq (c_RB_price o1 o23 hY hp ha (p3 C n 3 h1 h3)) (fun r h => ?_)) (fun C1 h => (h.2.2 91 (Or.inr ⟨by omega, by omega⟩)).trans o91)
        cases h
        exact ⟨rfl, rfl, h1, h3, fun _ _ => rfl⟩
      · intro C1 g2
        have g2' := g2
        obtain ⟨⟨nl, ap, m70⟩, m71, m72, ⟨u73, m73⟩, m74, m75, m76, m77, m78, m79, m80, ⟨cn, m81, hcn⟩, m82, m83, m84, m85, m86, m87, ⟨u88, m88⟩, ⟨u89, m89⟩, ⟨u90, m90⟩⟩ := g2'
        exact gj_conseq (c_Mo_price m70 m74 b3 hj hg ha (P := P) (fun C2 tc2 e70 e => p4 C2 n 5 tc2 (lw_mod_70 g2 e70 e)) p5) (fun r h => ⟨h.1, h.2.1, lw_mod_70 g2 h.2.2.1 h.2.2.2, fun y hy => h.2.2.2 y (by omega)⟩)
set_option maxHeartbeats 1000000 in
theorem s_cheapest {C : Nat → va_E} {n : Nat} (a0 : Int32) (hI : lw_I C n) : lw_st lw_I md_La_cheapest md_Mo_cheapest [.int a0] 8 C n := by
  obtain ⟨tc, v0, x, q, ln, li, mk, cs, f, T, sh, fr, up, dn, sz, bk, cf, cu, cd, lr, go, zo, gr, vo, se, pr, le, fm, mu, md, h1, h2, h3, h4, o, o91, ov⟩ := hI
  have h1' := h1
  have h2' := h2
  have h4' := h4
  obtain ⟨hxq, o1, ⟨pp, o2⟩, o3, ⟨g4, o4⟩, oM, ⟨Tq, lq, oQ⟩, o23, ⟨co, o24, hco⟩, o65, oR, oC⟩ := h1'
  obtain ⟨⟨nl, ap, m70⟩, m71, m72, ⟨u73, m73⟩, m74, m75, m76, m77, m78, m79, m80, ⟨cn, m81, hcn⟩, m82, m83, m84, m85, m86, m87, ⟨u88, m88⟩, ⟨u89, m89⟩, ⟨u90, m90⟩⟩ := h2'
  obtain ⟨⟨b1, b2, b3, b4, b5⟩, ⟨T0, t1, t2, t3⟩, r1, r2, r3, r4, r5, r6, r7⟩ := h4'
  cases hp : pr_pn sh a0 with
  | none => exact lw_no (k := 1) (by decide) h1 h2 h3 h4 ⟨o, o91, ov⟩ (h_cheapest_NSE o1 (c_RB_cheapest_x1 (a := 0) o1 o23 (Nat.le_refl 1) (Nat.le_refl 6) hp)) (gj_conseq (c_Mo_cheapest_x1 (a := 0) m70 m74 b3 (lw_pn0 b3 r1 hp)) (fun r h => ⟨h.1, h.2.1, lw_mod_70 h2 h.2.2.1 h.2.2.2, h.2.2.2⟩))
  | some y =>
    obtain ⟨j, hj, e, hg, hy⟩ := lw_pn1 r1 hp
    subst e
    obtain ⟨y1, y2, hY⟩ := h3 j y hy
    have ex : ∀ a, ∃ P : Int32, a < 10 → ((T.2.2.2.2.1 a = 0 ∧ P = -2) ∨ (¬ T.2.2.2.2.1 a = 0 ∧ (P = -1 ∨ ∃ Q : Nat, Q ≤ 2000000 ∧ P = nI Q))) ∧ (¬ T.2.2.2.2.1 a = 0 → ∀ (C : Nat → va_E) (n d : Nat), lw_cls C x q ln li mk cs f T sh fr up dn sz bk cf cu cd → lw_shm C n sh zo gr vo se pr le → gj_G md_RB_priceNow (d + 3) 0 0 0 0 0 [(0, .ref (1)), (1, .ref (y)), (2, .int (nI a))] [] n C (fun r => r = (gj_iv P, n, C))) ∧ (∀ (C : Nat → va_E) (n d : Nat) (tc : Int32), lw_mod C tc ln li mk cs f sz cf cu cd lr go zo gr vo se pr le fm mu md → gj_G md_Mo_priceOf (d + 2) 0 0 0 0 0 [(0, .ref (70)), (1, .int (nI j)), (2, .int (nI a))] [] n C (fun r => r = (gj_iv P, n, C))) := by
      intro a
      by_cases ha : a < 10
      · rcases lw_price h4 hj hg ha hy with ⟨p1, p2, p3⟩ | ⟨p1, P, p2, p3, p4⟩
        · exact ⟨-2, fun _ => ⟨Or.inl ⟨p1, rfl⟩, fun z => absurd p1 z, p3⟩⟩
        · exact ⟨P, fun _ => ⟨Or.inr ⟨p1, p2⟩, fun _ => p3, p4⟩⟩
      · exact ⟨0, fun z => absurd z ha⟩
    obtain ⟨P, hP⟩ : ∃ P : Nat → Int32, ∀ a, a < 10 → ((T.2.2.2.2.1 a = 0 ∧ P a = -2) ∨ (¬ T.2.2.2.2.1 a = 0 ∧ (P a = -1 ∨ ∃ Q : Nat, Q ≤ 2000000 ∧ P a = nI Q))) ∧ (¬ T.2.2.2.2.1 a = 0 → ∀ (C : Nat → va_E) (n d : Nat), lw_cls C x q ln li mk cs f T sh fr up dn sz bk cf cu cd → lw_shm C n sh zo gr vo se pr le → gj_G md_RB_priceNow (d + 3) 0 0 0 0 0 [(0, .ref (1)), (1, .ref (y)), (2, .int (nI a))] [] n C (fun r => r = (gj_iv (P a), n, C))) ∧ (∀ (C : Nat → va_E) (n d : Nat) (tc : Int32), lw_mod C tc ln li mk cs f sz cf cu cd lr go zo gr vo se pr le fm mu md → gj_G md_Mo_priceOf (d + 2) 0 0 0 0 0 [(0, .ref (70)), (1, .int (nI j)), (2, .int (nI a))] [] n C (fun r => r = (gj_iv (P a), n, C))) := ⟨fun a => Classical.choose (ex a), fun a => Classical.choose_spec (ex a)⟩
    have ech : pc_ch T.2.2.2.2.1 P 10 0 (-1) (-1) = pf_cd (pm_ch P 10 0 none) := by
      refine ch_eq (P2 := P) 10 0 none (-1) (fun k _ hk => ?_) (fun _ => rfl) (fun j hj => nomatch hj)
      obtain ⟨z1, -, -⟩ := hP k (by omega)
      unfold pc_one
      rcases z1 with ⟨z1, z2⟩ | ⟨z1, z2 | ⟨Q, z3, z2⟩⟩
      · rw [if_pos z1, z2]; exact Or.inl ⟨rfl, by decide⟩
      · rw [if_neg z1, z2]; exact Or.inl ⟨rfl, by decide⟩
      · rw [if_neg z1, z2]; exact Or.inr ⟨nI_m1 (by omega), nI_pos' (by omega), rfl⟩
    refine lw_go (v := pc_ch T.2.2.2.2.1 P 10 0 (-1) (-1)) (n1 := n) (o := o) (hc := ?_) (h2 := h2) (hm := ?_) (h4 := h4)
    · refine h_cheapest o1 (gj_conseq (c_RB_cheapest o1 o23 oM.1 oM.2.2.2.2.2.1 (P := P) (fun a ha hd => (hP a ha).2.1 hd C n 3 h1 h3) hp) (fun r h => ?_)) (fun C1 h => (h.2.2 91 (Or.inr ⟨by omega, by omega⟩)).trans o91)
      cases h
      exact ⟨rfl, rfl, h1, h3, fun _ _ => rfl⟩
    · intro C1 g2
      have g2' := g2
      obtain ⟨⟨nl, ap, m70⟩, m71, m72, ⟨u73, m73⟩, m74, m75, m76, m77, m78, m79, m80, ⟨cn, m81, hcn⟩, m82, m83, m84, m85, m86, m87, ⟨u88, m88⟩, ⟨u89, m89⟩, ⟨u90, m90⟩⟩ := g2'
      exact gj_conseq (c_Mo_cheapest m70 m74 b3 hj hg (P := P) (fun C2 tc2 e70 e a ha => (hP a ha).2.2 C2 n 5 tc2 (lw_mod_70 g2 e70 e))) (fun r h => ⟨h.1.trans (by rw [ech]), h.2.1, lw_mod_70 g2 h.2.2.1 h.2.2.2, fun y hy => h.2.2.2 y (by omega)⟩)
set_option maxHeartbeats 1000000 in
theorem s_parcels {C : Nat → va_E} {n : Nat} (a0 : Int32) (a1 : Int32) (hI : lw_I C n) : lw_st lw_I md_La_parcels md_Mo_parcels [.int a0, .int a1] 8 C n := by
  obtain ⟨tc, v0, x, q, ln, li, mk, cs, f, T, sh, fr, up, dn, sz, bk, cf, cu, cd, lr, go, zo, gr, vo, se, pr, le, fm, mu, md, h1, h2, h3, h4, o, o91, ov⟩ := hI
  have h1' := h1
  have h2' := h2
  have h4' := h4
  obtain ⟨hxq, o1, ⟨pp, o2⟩, o3, ⟨g4, o4⟩, oM, ⟨Tq, lq, oQ⟩, o23, ⟨co, o24, hco⟩, o65, oR, oC⟩ := h1'
  obtain ⟨⟨nl, ap, m70⟩, m71, m72, ⟨u73, m73⟩, m74, m75, m76, m77, m78, m79, m80, ⟨cn, m81, hcn⟩, m82, m83, m84, m85, m86, m87, ⟨u88, m88⟩, ⟨u89, m89⟩, ⟨u90, m90⟩⟩ := h2'
  obtain ⟨⟨b1, b2, b3, b4, b5⟩, ⟨T0, t1, t2, t3⟩, r1, r2, r3, r4, r5, r6, r7⟩ := h4'
  cases hp : pr_pn sh a0 with
  | none => exact lw_no (k := 1) (by decide) h1 h2 h3 h4 ⟨o, o91, ov⟩ (h_parcels_NSE o1 (c_RB_parcels_x1 o1 o23 (Nat.le_refl 1) (Nat.le_refl 6) hp)) (gj_conseq (c_Mo_parcels_x1 m70 m74 b3 (lw_pn0 b3 r1 hp)) (fun r h => ⟨h.1, h.2.1, lw_mod_70 h2 h.2.2.1 h.2.2.2, h.2.2.2⟩))
  | some y =>
    obtain ⟨j, hj, e, hg, hy⟩ := lw_pn1 r1 hp
    subst e
    obtain ⟨y1, y2, hY⟩ := h3 j y hy
    by_cases c : 0 ≤ a1 ∧ a1 < 10
    case neg => exact lw_no (k := 2) (by decide) h1 h2 h3 h4 ⟨o, o91, ov⟩ (h_parcels_IAE o1 (c_RB_parcels_x2 o1 o23 (Nat.le_refl 1) (Nat.le_refl 6) hp c)) (gj_conseq (c_Mo_parcels_x2 (s := 0) m70 m74 b3 hj hg (fun z => c (lw_ca.mpr z))) (fun r h => ⟨h.1, h.2.1, lw_mod_70 h2 h.2.2.1 h.2.2.2, h.2.2.2⟩))
    obtain ⟨a, ha, e⟩ := lw_ca1 c
    subst e
    obtain ⟨⟨Z, z1, z2⟩, ⟨G, q1, q2, q3⟩, -⟩ := r3 j hj
    have hsp : T.2.2.2.2.2.2.2.2 ≤ 60 := by rw [t2]; exact Nat.le_trans (rt_sp t1 li) b2
    have e := fun (l2 g2 c2 : Nat → Int32) => pq_eq (lr := lr) t1 ha (show Z < 10 by omega) q1 q2 t3 (lw := upd l2 0 0) (hg := upd g2 0 0) (cs := upd c2 0 0) (upd_self _ _ _) (upd_self _ _ _) (upd_self _ _ _)
    rw [← t2, ← q3, ← z2] at e
    refine lw_go (v := pr_lc T.1 T.2.1 T.2.2.1 T.2.2.2.1 T.2.2.2.2.2.2.2.2 (nI a * 10 + zo j) 3 0 (gr j) (gr j)) (n1 := n) (o := o) (hc := ?_) (h2 := h2) (hm := ?_) (h4 := h4)
    · refine h_parcels o1 (gj_conseq (c_RB_parcels o1 o23 hY oM.1 oM.2.1 oM.2.2.1 oM.2.2.2.1 oM.2.2.2.2.1 hp ha hsp) (fun r h => ?_)) (fun C1 h => (h.2.2 91 (Or.inr ⟨by omega, by omega⟩)).trans o91)
      cases h
      exact ⟨rfl, rfl, h1, h3, fun _ _ => rfl⟩
    · intro C1 g2
      have g2' := g2
      obtain ⟨⟨nl, ap, m70⟩, m71, m72, ⟨u73, m73⟩, m74, m75, m76, m77, m78, m79, m80, ⟨cn, m81, hcn⟩, m82, m83, m84, m85, m86, m87, ⟨u88, m88⟩, ⟨u89, m89⟩, ⟨u90, m90⟩⟩ := g2'
      exact gj_conseq (c_Mo_parcels m70 m72 m75 m76 m88 m89 m90 m74 b3 b2 hj hg ha) (fun r h => ⟨h.1.trans (by rw [e]), h.2.1, ⟨⟨nl, ap, h.2.2.1⟩, (h.2.2.2.2.2.2 _ (by omega) (by omega) (by omega) (by omega)).trans m71, (h.2.2.2.2.2.2 _ (by omega) (by omega) (by omega) (by omega)).trans m72, ⟨u73, (h.2.2.2.2.2.2 _ (by omega) (by omega) (by omega) (by omega)).trans m73⟩, (h.2.2.2.2.2.2 _ (by omega) (by omega) (by omega) (by omega)).trans m74, (h.2.2.2.2.2.2 _ (by omega) (by omega) (by omega) (by omega)).trans m75, (h.2.2.2.2.2.2 _ (by omega) (by omega) (by omega) (by omega)).trans m76, (h.2.2.2.2.2.2 _ (by omega) (by omega) (by omega) (by omega)).trans m77, (h.2.2.2.2.2.2 _ (by omega) (by omega) (by omega) (by omega)).trans m78, (h.2.2.2.2.2.2 _ (by omega) (by omega) (by omega) (by omega)).trans m79, (h.2.2.2.2.2.2 _ (by omega) (by omega) (by omega) (by omega)).trans m80, ⟨cn, (h.2.2.2.2.2.2 _ (by omega) (by omega) (by omega) (by omega)).trans m81, hcn⟩, (h.2.2.2.2.2.2 _ (by omega) (by omega) (by omega) (by omega)).trans m82, (h.2.2.2.2.2.2 _ (by omega) (by omega) (by omega) (by omega)).trans m83, (h.2.2.2.2.2.2 _ (by omega) (by omega) (by omega) (by omega)).trans m84, (h.2.2.2.2.2.2 _ (by omega) (by omega) (by omega) (by omega)).trans m85, (h.2.2.2.2.2.2 _ (by omega) (by omega) (by omega) (by omega)).trans m86, (h.2.2.2.2.2.2 _ (by omega) (by omega) (by omega) (by omega)).trans m87, h.2.2.2.1, h.2.2.2.2.1, h.2.2.2.2.2.1⟩, fun y hy => h.2.2.2.2.2.2 y (by omega) (by omega) (by omega) (by omega)⟩)
set_option maxHeartbeats 1000000 in
theorem s_differ {C : Nat → va_E} {n : Nat} (a0 : Int32) (hI : lw_I C n) : lw_st lw_I md_La_differ md_Mo_differ [.int a0] 8 C n := by
  obtain ⟨tc, v0, x, q, ln, li, mk, cs, f, T, sh, fr, up, dn, sz, bk, cf, cu, cd, lr, go, zo, gr, vo, se, pr, le, fm, mu, md, h1, h2, h3, h4, o, o91, ov⟩ := hI
  have h1' := h1
  have h2' := h2
  have h4' := h4
  obtain ⟨hxq, o1, ⟨pp, o2⟩, o3, ⟨g4, o4⟩, oM, ⟨Tq, lq, oQ⟩, o23, ⟨co, o24, hco⟩, o65, oR, oC⟩ := h1'
  obtain ⟨⟨nl, ap, m70⟩, m71, m72, ⟨u73, m73⟩, m74, m75, m76, m77, m78, m79, m80, ⟨cn, m81, hcn⟩, m82, m83, m84, m85, m86, m87, ⟨u88, m88⟩, ⟨u89, m89⟩, ⟨u90, m90⟩⟩ := h2'
  obtain ⟨⟨b1, b2, b3, b4, b5⟩, ⟨T0, t1, t2, t3⟩, r1, r2, r3, r4, r5, r6, r7⟩ := h4'
  by_cases c : a0 < 0
  · exact lw_no (k := 1) (by decide) h1 h2 h3 h4 ⟨o, o91, ov⟩ (h_differ_IAE o1 (c_RB_differ_x1 o1 (Nat.le_refl 1) (Nat.le_refl 6) c)) (gj_conseq (c_Mo_differ_x1 m70 c) (fun r h => ⟨h.1, h.2.1, lw_mod_70 h2 h.2.2.1 h.2.2.2, h.2.2.2⟩))
  · have hi := Int32.not_lt.mp c
    have ed : pc_df sh pr le a0 20 0 0 = pm_df go le pr a0 mk 0 0 := by
      rw [show 20 = mk + (20 - mk) by omega]
      refine df_eq mk _ 0 0 (fun k _ hk => ?_) (fun k hk => (r1 k).mpr (fun z => by omega))
      obtain ⟨-, -, -, -, z⟩ := r3 k (by omega)
      unfold pc_dc
      rw [r1 k, lw_ge z]
      exact ⟨fun w => ⟨(Classical.not_not.mp w.1).2, w.2⟩, fun w => ⟨fun v => v ⟨by omega, w.1⟩, w.2⟩⟩
    refine lw_go (v := pc_df sh pr le a0 20 0 0) (n1 := n) (o := o) (hc := ?_) (h2 := h2) (hm := ?_) (h4 := h4)
    · refine h_differ o1 (gj_conseq (c_RB_differ o1 o23 (fun j y hy => (h3 j y hy).2.2) hi) (fun r h => ?_)) (fun C1 h => (h.2.2 91 (Or.inr ⟨by omega, by omega⟩)).trans o91)
      cases h
      exact ⟨rfl, rfl, h1, h3, fun _ _ => rfl⟩
    · intro C1 g2
      have g2' := g2
      obtain ⟨⟨nl, ap, m70⟩, m71, m72, ⟨u73, m73⟩, m74, m75, m76, m77, m78, m79, m80, ⟨cn, m81, hcn⟩, m82, m83, m84, m85, m86, m87, ⟨u88, m88⟩, ⟨u89, m89⟩, ⟨u90, m90⟩⟩ := g2'
      exact gj_conseq (c_Mo_differ m70 m74 m79 m80 b3 hi) (fun r h => ⟨h.1.trans (by rw [ed]), h.2.1, lw_mod_70 g2 h.2.2.1 h.2.2.2, fun y hy => h.2.2.2 y (by omega)⟩)
set_option maxHeartbeats 1000000 in
theorem s_converted {C : Nat → va_E} {n : Nat} (a0 : Int32) (a1 : Int32) (hI : lw_I C n) : lw_sl lw_I md_La_converted md_Mo_converted [.int a0, .int a1] 8 C n := by
  obtain ⟨tc, v0, x, q, ln, li, mk, cs, f, T, sh, fr, up, dn, sz, bk, cf, cu, cd, lr, go, zo, gr, vo, se, pr, le, fm, mu, md, h1, h2, h3, h4, o, o91, ov⟩ := hI
  have h1' := h1
  have h2' := h2
  have h4' := h4
  obtain ⟨hxq, o1, ⟨pp, o2⟩, o3, ⟨g4, o4⟩, oM, ⟨Tq, lq, oQ⟩, o23, ⟨co, o24, hco⟩, o65, oR, oC⟩ := h1'
  obtain ⟨⟨nl, ap, m70⟩, m71, m72, ⟨u73, m73⟩, m74, m75, m76, m77, m78, m79, m80, ⟨cn, m81, hcn⟩, m82, m83, m84, m85, m86, m87, ⟨u88, m88⟩, ⟨u89, m89⟩, ⟨u90, m90⟩⟩ := h2'
  obtain ⟨⟨b1, b2, b3, b4, b5⟩, ⟨T0, t1, t2, t3⟩, r1, r2, r3, r4, r5, r6, r7⟩ := h4'
  by_cases c : (0 ≤ a0 ∧ a0 ≤ 10000000) ∧ (0 ≤ a1 ∧ a1 ≤ 10000)
  · refine lw_gol (v := pc_cv a0 cu cd (pf_la cf a1 cs 0 none)) (n1 := n) (o := o) (hc := ?_) (h2 := h2) (hm := ?_) (h4 := h4)
    · refine h_converted o1 (gj_conseq (c_RB_converted o1 oC.1 oC.2.1 oC.2.2.1 oC.2.2.2 b4 c r5) (fun r h => ?_)) (fun C1 h => (h.2.2 91 (Or.inr ⟨by omega, by omega⟩)).trans o91)
      cases h
      exact ⟨rfl, rfl, h1, h3, fun _ _ => rfl⟩
    · intro C1 g2
      have g2' := g2
      obtain ⟨⟨nl, ap, m70⟩, m71, m72, ⟨u73, m73⟩, m74, m75, m76, m77, m78, m79, m80, ⟨cn, m81, hcn⟩, m82, m83, m84, m85, m86, m87, ⟨u88, m88⟩, ⟨u89, m89⟩, ⟨u90, m90⟩⟩ := g2'
      exact gj_conseq (c_Mo_converted m70 m85 m86 m87 b4 r5 c) (fun r h => ⟨h.1, h.2.1, lw_mod_70 g2 h.2.2.1 h.2.2.2, fun y hy => h.2.2.2 y (by omega)⟩)
  · exact lw_nol (k := 1) (by decide) h1 h2 h3 h4 ⟨o, o91, ov⟩ (h_converted_IAE o1 (c_RB_converted_x1 o1 (Nat.le_refl 1) (Nat.le_refl 6) c)) (gj_conseq (c_Mo_converted_x1 m70 c) (fun r h => ⟨h.1, h.2.1, lw_mod_70 h2 h.2.2.1 h.2.2.2, h.2.2.2⟩))
set_option maxHeartbeats 1000000 in
theorem s_count {C : Nat → va_E} {n : Nat} (a0 : Int32) (hI : lw_I C n) : lw_sd lw_I md_RB_count md_Mo_count [.int a0] 8 C n := by
  obtain ⟨tc, v0, x, q, ln, li, mk, cs, f, T, sh, fr, up, dn, sz, bk, cf, cu, cd, lr, go, zo, gr, vo, se, pr, le, fm, mu, md, h1, h2, h3, h4, o, o91, ov⟩ := hI
  have h1' := h1
  have h2' := h2
  have h4' := h4
  obtain ⟨hxq, o1, ⟨pp, o2⟩, o3, ⟨g4, o4⟩, oM, ⟨Tq, lq, oQ⟩, o23, ⟨co, o24, hco⟩, o65, oR, oC⟩ := h1'
  obtain ⟨⟨nl, ap, m70⟩, m71, m72, ⟨u73, m73⟩, m74, m75, m76, m77, m78, m79, m80, ⟨cn, m81, hcn⟩, m82, m83, m84, m85, m86, m87, ⟨u88, m88⟩, ⟨u89, m89⟩, ⟨u90, m90⟩⟩ := h2'
  obtain ⟨⟨b1, b2, b3, b4, b5⟩, ⟨T0, t1, t2, t3⟩, r1, r2, r3, r4, r5, r6, r7⟩ := h4'
  have e := cn_eq (ln := ln) (li := li) (w := a0) (pr := pr) b3 r1 (fun j hj => (r3 j hj).2.2.2.1) (fun j hj => (r3 j hj).2.2.2.2)
  refine ⟨pc_cn ln li sh se pr le a0, n, fun C1 => C1 = C, fun C2 => lw_mod C2 0 ln li mk cs f sz cf cu cd lr go zo gr vo se pr le fm mu md ∧ ∀ y, y ≠ 70 → C2 y = C y, ⟨_, o1⟩, gj_conseq (c_RB_count o1 o23 (fun j y hy => (h3 j y hy).2.2) o2 oM.1) (fun r h => by cases h; exact ⟨rfl, rfl, rfl⟩), fun C1 e1 => ?_, fun C2 h => ?_⟩
  · subst e1
    exact ⟨rfl, ⟨_, m70⟩, gj_conseq (c_Mo_count m70 m74 m78 m79 m80 b3) (fun r h => ⟨h.1.trans (by rw [e]), h.2.1, lw_mod_70 h2 h.2.2.1 h.2.2.2, h.2.2.2⟩)⟩
  · obtain ⟨g1, g2⟩ := h
    exact ⟨g2 0 (by omega), 0, v0, x, q, ln, li, mk, cs, f, T, sh, fr, up, dn, sz, bk, cf, cu, cd, lr, go, zo, gr, vo, se, pr, le, fm, mu, md, lw_cls_of h1 (fun y _ _ => g2 y (by omega)), g1, lw_shm_of h3 (fun y _ _ => g2 y (by omega)), h4, o, (g2 91 (by omega)).trans o91, ov⟩
