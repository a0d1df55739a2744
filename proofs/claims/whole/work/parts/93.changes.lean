/-! the law: the calls that change something -/
set_option maxHeartbeats 1000000 in
theorem s_sign {C : Nat → va_E} {n : Nat} (a0 : Int32) (hI : lw_I C n) : lw_st lw_I md_La_sign md_Mo_sign [.int a0] 8 C n := by
  obtain ⟨tc, v0, x, q, ln, li, mk, cs, f, T, sh, fr, up, dn, sz, bk, cf, cu, cd, lr, go, zo, gr, vo, se, pr, le, fm, mu, md, h1, h2, h3, h4, o, o91, ov⟩ := hI
  have h1' := h1
  have h2' := h2
  have h4' := h4
  obtain ⟨hxq, o1, ⟨pp, o2⟩, o3, ⟨g4, o4⟩, oM, ⟨Tq, lq, oQ⟩, o23, ⟨co, o24, hco⟩, o65, oR, oC⟩ := h1'
  obtain ⟨⟨nl, ap, m70⟩, m71, m72, ⟨u73, m73⟩, m74, m75, m76, m77, m78, m79, m80, ⟨cn, m81, hcn⟩, m82, m83, m84, m85, m86, m87, ⟨u88, m88⟩, ⟨u89, m89⟩, ⟨u90, m90⟩⟩ := h2'
  obtain ⟨⟨b1, b2, b3, b4, b5⟩, ⟨T0, t1, t2, t3⟩, r1, r2, r3, r4, r5, r6, r7⟩ := h4'
  by_cases c : 0 ≤ a0 ∧ a0 ≤ 255
  case neg => exact lw_no (k := 1) (by decide) h1 h2 h3 h4 ⟨o, o91, ov⟩ (h_sign_IAE o1 (c_RB_sign_x1 o1 (Nat.le_refl 1) (Nat.le_refl 6) c)) (gj_conseq (c_Mo_sign_x1 m70 m71 c) (fun r h => ⟨h.1, h.2.1, lw_mod_70 h2 h.2.2.1 h.2.2.2, h.2.2.2⟩))
  by_cases l : ln < 600
  case neg => exact lw_no (k := 2) (by decide) h1 h2 h3 h4 ⟨o, o91, ov⟩ (h_sign_UOE o1 (c_RB_sign_x2 o1 o2 (Nat.le_refl 1) (Nat.le_refl 6) c l b1)) (gj_conseq (c_Mo_sign_x2 m70 m71 c b1 l) (fun r h => ⟨h.1, h.2.1, lw_mod_70 h2 h.2.2.1 h.2.2.2, h.2.2.2⟩))
  have hr : lw_rel n x q (ln + 1) li mk cs (upd f ln a0) T sh fr up dn sz bk cf cu cd lr go zo gr vo se pr le fm mu md := ⟨⟨by omega, b2, b3, b4, b5⟩, ⟨T0, t1, t2, t3⟩, r1, r2, r3, r4, r5, r6, r7⟩
  refine lw_go (v := nI (ln + 1)) (n1 := n) (o := o) (hc := ?_) (h2 := h2) (hm := ?_) (h4 := hr)
  · refine h_sign o1 (gj_conseq (c_RB_sign o1 o2 o3 c l) (fun r h => ?_)) (fun C1 h => (h.2.2 91 (Or.inr ⟨by omega, by omega⟩)).trans o91)
    obtain ⟨e1, e2, e3, e4, e⟩ := h
    refine ⟨e1, e2, ⟨hxq, (e _ (by omega) (by omega)).trans o1, ⟨pp, e3⟩, e4, ⟨g4, (e _ (by omega) (by omega)).trans o4⟩, pr_M_of oM (fun y ya yb => e _ (by omega) (by omega)), ⟨Tq, lq, pr_M_of oQ (fun y ya yb => e _ (by omega) (by omega))⟩, (e _ (by omega) (by omega)).trans o23, ⟨co, (e _ (by omega) (by omega)).trans o24, hco⟩, (e _ (by omega) (by omega)).trans o65, fun a ha => pr_R_of (oR a ha) (fun y ya yb => e _ (by omega) (by omega)), pr_R_of oC (fun y ya yb => e _ (by omega) (by omega))⟩, lw_shm_of h3 (fun y ya yb => e _ (by omega) (by omega)), fun y hy => e _ (by omega) (by omega)⟩
  · intro C1 g2
    have g2' := g2
    obtain ⟨⟨nl, ap, m70⟩, m71, m72, ⟨u73, m73⟩, m74, m75, m76, m77, m78, m79, m80, ⟨cn, m81, hcn⟩, m82, m83, m84, m85, m86, m87, ⟨u88, m88⟩, ⟨u89, m89⟩, ⟨u90, m90⟩⟩ := g2'
    refine gj_conseq (c_Mo_sign m70 m71 c l) (fun r h => ?_)
    obtain ⟨e1, e2, e3, e4, e⟩ := h
    exact ⟨e1, e2, ⟨⟨nl, ap, e3⟩, e4, (e _ (by omega) (by omega)).trans m72, ⟨u73, (e _ (by omega) (by omega)).trans m73⟩, (e _ (by omega) (by omega)).trans m74, (e _ (by omega) (by omega)).trans m75, (e _ (by omega) (by omega)).trans m76, (e _ (by omega) (by omega)).trans m77, (e _ (by omega) (by omega)).trans m78, (e _ (by omega) (by omega)).trans m79, (e _ (by omega) (by omega)).trans m80, ⟨cn, (e _ (by omega) (by omega)).trans m81, hcn⟩, (e _ (by omega) (by omega)).trans m82, (e _ (by omega) (by omega)).trans m83, (e _ (by omega) (by omega)).trans m84, (e _ (by omega) (by omega)).trans m85, (e _ (by omega) (by omega)).trans m86, (e _ (by omega) (by omega)).trans m87, ⟨u88, (e _ (by omega) (by omega)).trans m88⟩, ⟨u89, (e _ (by omega) (by omega)).trans m89⟩, ⟨u90, (e _ (by omega) (by omega)).trans m90⟩⟩, fun y hy => e _ (by omega) (by omega)⟩
set_option maxHeartbeats 1000000 in
theorem s_shipment {C : Nat → va_E} {n : Nat} (a0 : Int32) (a1 : Int32) (a2 : Int32) (hI : lw_I C n) : lw_st lw_I md_La_shipment md_Mo_shipment [.int a0, .int a1, .int a2] 8 C n := by
  obtain ⟨tc, v0, x, q, ln, li, mk, cs, f, T, sh, fr, up, dn, sz, bk, cf, cu, cd, lr, go, zo, gr, vo, se, pr, le, fm, mu, md, h1, h2, h3, h4, o, o91, ov⟩ := hI
  have h1' := h1
  have h2' := h2
  have h4' := h4
  obtain ⟨hxq, o1, ⟨pp, o2⟩, o3, ⟨g4, o4⟩, oM, ⟨Tq, lq, oQ⟩, o23, ⟨co, o24, hco⟩, o65, oR, oC⟩ := h1'
  obtain ⟨⟨nl, ap, m70⟩, m71, m72, ⟨u73, m73⟩, m74, m75, m76, m77, m78, m79, m80, ⟨cn, m81, hcn⟩, m82, m83, m84, m85, m86, m87, ⟨u88, m88⟩, ⟨u89, m89⟩, ⟨u90, m90⟩⟩ := h2'
  obtain ⟨⟨b1, b2, b3, b4, b5⟩, ⟨T0, t1, t2, t3⟩, r1, r2, r3, r4, r5, r6, r7⟩ := h4'
  by_cases c : (0 ≤ a0 ∧ a0 ≤ 9) ∧ (1 ≤ a1 ∧ a1 ≤ 100000) ∧ (0 ≤ a2 ∧ a2 ≤ 100000000)
  case neg => exact lw_no (k := 1) (by decide) h1 h2 h3 h4 ⟨o, o91, ov⟩ (h_shipment_IAE o1 (c_RB_shipment_x1 o1 (Nat.le_refl 1) (Nat.le_refl 6) c)) (gj_conseq (c_Mo_shipment_x1 m70 m75 m76 m77 m78 m79 m80 c) (fun r h => ⟨h.1, h.2.1, lw_mod_70 h2 h.2.2.1 h.2.2.2, h.2.2.2⟩))
  by_cases l : mk < 20
  case neg => exact lw_no (k := 2) (by decide) h1 h2 h3 h4 ⟨o, o91, ov⟩ (h_shipment_UOE o1 (c_RB_shipment_x2 o1 (Nat.le_refl 1) (Nat.le_refl 6) c l b3)) (gj_conseq (c_Mo_shipment_x2 m70 m75 m76 m77 m78 m79 m80 c b3 l) (fun r h => ⟨h.1, h.2.1, lw_mod_70 h2 h.2.2.1 h.2.2.2, h.2.2.2⟩))
  have hr : lw_rel (n + 1) x q ln li (mk + 1) cs f T (va_up sh mk (some (n + 1))) fr up dn sz bk cf cu cd lr go (upd zo mk a0) (upd gr mk a1) (upd vo mk a2) (upd se mk (-1)) (upd pr mk (-1)) (upd le mk (-1)) fm mu md := by
    refine ⟨⟨b1, b2, by omega, b4, by omega⟩, ⟨T0, t1, t2, t3⟩, ?_, ?_, ?_, r4, r5, ?_, fun j hj => r7 j (by omega)⟩
    · intro j
      by_cases z : j = mk
      · subst z
        rw [va_up_self]
        exact ⟨fun w => (nomatch w), fun w => absurd ⟨Nat.lt_succ_self _, r7 j (Nat.le_refl _)⟩ w⟩
      · rw [va_up_ne _ _ z, r1 j]
        exact ⟨fun w y => w ⟨by omega, y.2⟩, fun w y => w ⟨by omega, y.2⟩⟩
    · intro i j y hi hj
      by_cases zi : i = mk <;> by_cases zj : j = mk
      · omega
      · rw [zi, va_up_self] at hi
        rw [va_up_ne _ _ zj] at hj
        cases hi
        have := (h3 j _ hj).2.1
        omega
      · rw [zj, va_up_self] at hj
        rw [va_up_ne _ _ zi] at hi
        cases hj
        have := (h3 i _ hi).2.1
        omega
      · rw [va_up_ne _ _ zi] at hi
        rw [va_up_ne _ _ zj] at hj
        exact r2 i j y hi hj
    · intro j hj
      by_cases z : j = mk
      · subst z
        rw [upd_self, upd_self, upd_self, upd_self, upd_self]
        obtain ⟨Z, z1, z2⟩ := nI_of2 (M := 9) (n := 9) (by decide) (Int32.not_lt.mpr c.1.1) c.1.2
        obtain ⟨V, w1, w2⟩ := nI_of2 (M := 100000000) (n := 100000000) (by decide) (Int32.not_lt.mpr c.2.2.1) c.2.2.2
        obtain ⟨G, q1, q2⟩ := nI_of2 (x := a1) (M := 100000) (n := 100000) (by decide) (fun w => absurd (Int32.lt_of_le_of_lt c.2.1.1 w) (by decide)) c.2.1.2
        have c1 := c.2.1.1
        rw [q2] at c1
        exact ⟨⟨Z, z1, z2⟩, ⟨G, (nI_leI (a := 1) (by decide) (by omega)).mp c1, q1, q2⟩, ⟨V, w1, w2⟩, Or.inl rfl, Or.inl rfl⟩
      · rw [upd_ne _ _ z, upd_ne _ _ z, upd_ne _ _ z, upd_ne _ _ z, upd_ne _ _ z]
        exact r3 j (by omega)
    · intro a ha
      rw [pl_bk_s, Nat.zero_add, upd_self, if_neg (fun w => nI_m1 (by omega) w.2.symm), pl_bk_c (go2 := go) (se2 := se) mk 0 0 (fun k _ hk => by rw [upd_ne _ _ (by omega)])]
      exact r6 a ha
  refine lw_go (v := nI mk) (n1 := n + 1) (o := o) (hc := ?_) (h2 := h2) (hm := ?_) (h4 := hr)
  · refine h_shipment o1 (gj_conseq (c_RB_shipment o1 o23 (Nat.le_refl 1) (Nat.le_refl 6) c l (by omega)) (fun r h => ?_)) (fun C1 h => (h.2.2 91 (Or.inr ⟨by omega, by omega⟩)).trans o91)
    obtain ⟨e1, e2, e3, e4, e5, e⟩ := h
    refine ⟨e1, e2, ⟨hxq, e3, ⟨pp, (e _ (by omega) (by omega) (by omega)).trans o2⟩, (e _ (by omega) (by omega) (by omega)).trans o3, ⟨g4, (e _ (by omega) (by omega) (by omega)).trans o4⟩, pr_M_of oM (fun y ya yb => e _ (by omega) (by omega) (by omega)), ⟨Tq, lq, pr_M_of oQ (fun y ya yb => e _ (by omega) (by omega) (by omega))⟩, e4, ⟨co, (e _ (by omega) (by omega) (by omega)).trans o24, hco⟩, (e _ (by omega) (by omega) (by omega)).trans o65, fun a ha => pr_R_of (oR a ha) (fun y ya yb => e _ (by omega) (by omega) (by omega)), pr_R_of oC (fun y ya yb => e _ (by omega) (by omega) (by omega))⟩, ?_, fun y hy => e _ (by omega) (by omega) (by omega)⟩
    intro j y hy
    by_cases z : j = mk
    · subst z
      rw [va_up_self] at hy
      cases hy
      rw [upd_self, upd_self, upd_self, upd_self, upd_self, upd_self]
      exact ⟨by omega, by omega, e5⟩
    · rw [va_up_ne _ _ z] at hy
      rw [upd_ne _ _ z, upd_ne _ _ z, upd_ne _ _ z, upd_ne _ _ z, upd_ne _ _ z, upd_ne _ _ z]
      obtain ⟨y1, y2, y3⟩ := h3 j y hy
      exact ⟨y1, by omega, (e _ (by omega) (by omega) (by omega)).trans y3⟩
  · intro C1 g2
    have g2' := g2
    obtain ⟨⟨nl, ap, m70⟩, m71, m72, ⟨u73, m73⟩, m74, m75, m76, m77, m78, m79, m80, ⟨cn, m81, hcn⟩, m82, m83, m84, m85, m86, m87, ⟨u88, m88⟩, ⟨u89, m89⟩, ⟨u90, m90⟩⟩ := g2'
    refine gj_conseq (c_Mo_shipment m70 m75 m76 m77 m78 m79 m80 c l) (fun r h => ?_)
    obtain ⟨e1, e2, e3, e4, e5, e6, e7, e8, e9, e⟩ := h
    exact ⟨e1, e2, ⟨⟨nl, ap, e3⟩, (e _ (by omega) (by omega) (by omega) (by omega) (by omega) (by omega) (by omega)).trans m71, (e _ (by omega) (by omega) (by omega) (by omega) (by omega) (by omega) (by omega)).trans m72, ⟨u73, (e _ (by omega) (by omega) (by omega) (by omega) (by omega) (by omega) (by omega)).trans m73⟩, (e _ (by omega) (by omega) (by omega) (by omega) (by omega) (by omega) (by omega)).trans m74, e4, e5, e6, e7, e8, e9, ⟨cn, (e _ (by omega) (by omega) (by omega) (by omega) (by omega) (by omega) (by omega)).trans m81, hcn⟩, (e _ (by omega) (by omega) (by omega) (by omega) (by omega) (by omega) (by omega)).trans m82, (e _ (by omega) (by omega) (by omega) (by omega) (by omega) (by omega) (by omega)).trans m83, (e _ (by omega) (by omega) (by omega) (by omega) (by omega) (by omega) (by omega)).trans m84, (e _ (by omega) (by omega) (by omega) (by omega) (by omega) (by omega) (by omega)).trans m85, (e _ (by omega) (by omega) (by omega) (by omega) (by omega) (by omega) (by omega)).trans m86, (e _ (by omega) (by omega) (by omega) (by omega) (by omega) (by omega) (by omega)).trans m87, ⟨u88, (e _ (by omega) (by omega) (by omega) (by omega) (by omega) (by omega) (by omega)).trans m88⟩, ⟨u89, (e _ (by omega) (by omega) (by omega) (by omega) (by omega) (by omega) (by omega)).trans m89⟩, ⟨u90, (e _ (by omega) (by omega) (by omega) (by omega) (by omega) (by omega) (by omega)).trans m90⟩⟩, fun y hy => e _ (by omega) (by omega) (by omega) (by omega) (by omega) (by omega) (by omega)⟩
