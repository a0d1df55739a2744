/-! the law: contracts and currencies -/
set_option maxHeartbeats 1000000 in
theorem s_contract {C : Nat → va_E} {n : Nat} (a0 : Int32) (a1 : Int32) (a2 : Int32) (a3 : Int32) (hI : lw_I C n) : lw_st lw_I md_La_contract md_Mo_contract [.int a0, .int a1, .int a2, .int a3] 8 C n := by
  obtain ⟨tc, v0, x, q, ln, li, mk, cs, f, T, sh, fr, up, dn, sz, bk, cf, cu, cd, lr, go, zo, gr, vo, se, pr, le, fm, mu, md, h1, h2, h3, h4, o, o91, ov⟩ := hI
  have h1' := h1
  have h2' := h2
  have h4' := h4
  obtain ⟨hxq, o1, ⟨pp, o2⟩, o3, ⟨g4, o4⟩, oM, ⟨Tq, lq, oQ⟩, o23, ⟨co, o24, hco⟩, o65, oR, oC⟩ := h1'
  obtain ⟨⟨nl, ap, m70⟩, m71, m72, ⟨u73, m73⟩, m74, m75, m76, m77, m78, m79, m80, ⟨cn, m81, hcn⟩, m82, m83, m84, m85, m86, m87, ⟨u88, m88⟩, ⟨u89, m89⟩, ⟨u90, m90⟩⟩ := h2'
  obtain ⟨⟨b1, b2, b3, b4, b5⟩, ⟨T0, t1, t2, t3⟩, r1, r2, r3, r4, r5, r6, r7⟩ := h4'
  by_cases c : (0 ≤ a0 ∧ a0 < 10) ∧ (0 ≤ a1 ∧ a1 ≤ 100) ∧ (1 ≤ a3 ∧ a3 ≤ 1000) ∧ (0 ≤ a2 ∧ a2 ≤ a3)
  case neg => exact lw_no (k := 1) (by decide) h1 h2 h3 h4 ⟨o, o91, ov⟩ (h_contract_IAE o1 (c_RB_contract_x1 o1 (Nat.le_refl 1) (Nat.le_refl 6) c)) (gj_conseq (c_Mo_contract_x1 m70 (fun z => c ⟨lw_ca.mpr z.1, z.2⟩)) (fun r h => ⟨h.1, h.2.1, lw_mod_70 h2 h.2.2.1 h.2.2.2, h.2.2.2⟩))
  obtain ⟨ca, cc⟩ := c
  obtain ⟨a, ha, e⟩ := lw_ca1 ca
  subst e
  obtain ⟨c1, c2, c3⟩ := r4 a ha
  have hR := oR a ha
  have hpl : pf_pl (fun i => fm (4 * a + i)) a1 (sz a) 0 = pf_pl (fr a) a1 (sz a) 0 := (pf_pl_c _ _ (fun k hk => (c2 k (by omega)).1)).symm
  have hpb := pf_pl_le (fr a) a1 (sz a) 0
  by_cases l : pf_pl (fr a) a1 (sz a) 0 < 4
  case neg => exact lw_no (k := 2) (by decide) h1 h2 h3 h4 ⟨o, o91, ov⟩ (h_contract_UOE o1 (c_RB_contract_x2 o1 o24 hR.1 hR.2.1 hR.2.2.1 hR.2.2.2 (hco a ha) c1 ha (Nat.le_refl 1) (Nat.le_refl 6) cc l)) (gj_conseq (c_Mo_contract_x2 m70 m81 m82 m83 m84 ha (hcn a ha) c1 cc (by rw [hpl]; exact l)) (fun r h => ⟨h.1, h.2.1, lw_mod_70 h2 h.2.2.1 h.2.2.2, h.2.2.2⟩))
  have x1 := c_RB_contract (d := 4) (K := 1) (N := 6) (n := n) o1 o24 hR.1 hR.2.1 hR.2.2.1 hR.2.2.2 (hco a ha) c1 ha cc l
  generalize hp : pf_pl (fr a) a1 (sz a) 0 = p at *
  have hr : lw_rel n x q ln li mk cs f T sh (va_up fr a (upd (fr a) p a1)) (va_up up a (upd (up a) p a2)) (va_up dn a (upd (dn a) p a3)) (va_up sz a (max (sz a) (p + 1))) bk cf cu cd lr go zo gr vo se pr le (upd fm (4 * a + p) a1) (upd mu (4 * a + p) a2) (upd md (4 * a + p) a3) := by
    refine ⟨⟨b1, b2, b3, b4, b5⟩, ⟨T0, t1, t2, t3⟩, r1, r2, r3, ?_, r5, r6, r7⟩
    intro b hb
    by_cases z : b = a
    · subst z
      rw [va_up_self, va_up_self, va_up_self, va_up_self]
      refine ⟨by omega, fun k hk => ?_, fun k hk => ?_⟩
      · by_cases y : k = p
        · subst y
          rw [upd_self, upd_self, upd_self, upd_self, upd_self, upd_self]
          exact ⟨rfl, rfl, rfl⟩
        · rw [upd_ne _ _ y, upd_ne _ _ y, upd_ne _ _ y, upd_ne _ _ (show 4 * b + k ≠ 4 * b + p by omega), upd_ne _ _ (show 4 * b + k ≠ 4 * b + p by omega), upd_ne _ _ (show 4 * b + k ≠ 4 * b + p by omega)]
          exact c2 k hk
      · by_cases y : k = p
        · subst y
          rw [upd_self, upd_self]
          obtain ⟨D, d1, d2⟩ := nI_of2 (x := a3) (M := 1000) (n := 1000) (by decide) (fun w => absurd (Int32.lt_of_le_of_lt cc.2.1.1 w) (by decide)) cc.2.1.2
          obtain ⟨U, u1, u2⟩ := nI_of (Int32.not_lt.mpr cc.2.2.1)
          obtain ⟨-, ⟨k1, -⟩, -, k2⟩ := cc
          rw [d2] at k1 k2
          rw [u2] at k2
          exact ⟨U, D, (nI_leI u1 (by omega)).mp k2, (nI_leI (a := 1) (by decide) (by omega)).mp k1, d1, u2, d2⟩
        · rw [upd_ne _ _ y, upd_ne _ _ y]
          exact c3 k (by omega)
    · rw [va_up_ne _ _ z, va_up_ne _ _ z, va_up_ne _ _ z, va_up_ne _ _ z]
      obtain ⟨d1, d2, d3⟩ := r4 b hb
      refine ⟨d1, fun k hk => ?_, d3⟩
      rw [upd_ne _ _ (show 4 * b + k ≠ 4 * a + p by omega), upd_ne _ _ (show 4 * b + k ≠ 4 * a + p by omega), upd_ne _ _ (show 4 * b + k ≠ 4 * a + p by omega)]
      exact d2 k hk
  refine lw_go (v := nI (max (sz a) (p + 1))) (n1 := n) (o := o) (hc := ?_) (h2 := h2) (hm := ?_) (h4 := hr)
  · refine h_contract o1 (gj_conseq (x1) (fun r h => ?_)) (fun C1 h => (h.2.2 91 (Or.inr ⟨by omega, by omega⟩)).trans o91)
    obtain ⟨e1, e2, e3, e⟩ := h
    refine ⟨e1, e2, ⟨hxq, (e _ (by omega)).trans o1, ⟨pp, (e _ (by omega)).trans o2⟩, (e _ (by omega)).trans o3, ⟨g4, (e _ (by omega)).trans o4⟩, pr_M_of oM (fun y ya yb => e _ (by omega)), ⟨Tq, lq, pr_M_of oQ (fun y ya yb => e _ (by omega))⟩, (e _ (by omega)).trans o23, ⟨co, (e _ (by omega)).trans o24, hco⟩, (e _ (by omega)).trans o65, ?_, pr_R_of oC (fun y ya yb => e _ (by omega))⟩, lw_shm_of h3 (fun y ya yb => e _ (by omega)), fun y hy => e _ (by omega)⟩
    intro b hb
    by_cases z : b = a
    · subst z
      rw [va_up_self, va_up_self, va_up_self, va_up_self]
      exact e3
    · rw [va_up_ne _ _ z, va_up_ne _ _ z, va_up_ne _ _ z, va_up_ne _ _ z]
      exact pr_R_of (oR b hb) (fun y ya yb => e _ (by omega))
  · intro C1 g2
    have g2' := g2
    obtain ⟨⟨nl, ap, m70⟩, m71, m72, ⟨u73, m73⟩, m74, m75, m76, m77, m78, m79, m80, ⟨cn, m81, hcn⟩, m82, m83, m84, m85, m86, m87, ⟨u88, m88⟩, ⟨u89, m89⟩, ⟨u90, m90⟩⟩ := g2'
    refine gj_conseq (c_Mo_contract m70 m81 m82 m83 m84 ha (hcn a ha) c1 cc (by rw [hpl]; exact l)) (fun r h => ?_)
    rw [hpl] at h
    obtain ⟨e1, e2, e3, ⟨cn2, e4, e5, e6⟩, e7, e8, e9, e⟩ := h
    exact ⟨e1, e2, ⟨⟨nl, ap, e3⟩, (e _ (by omega) (by omega) (by omega) (by omega) (by omega)).trans m71, (e _ (by omega) (by omega) (by omega) (by omega) (by omega)).trans m72, ⟨u73, (e _ (by omega) (by omega) (by omega) (by omega) (by omega)).trans m73⟩, (e _ (by omega) (by omega) (by omega) (by omega) (by omega)).trans m74, (e _ (by omega) (by omega) (by omega) (by omega) (by omega)).trans m75, (e _ (by omega) (by omega) (by omega) (by omega) (by omega)).trans m76, (e _ (by omega) (by omega) (by omega) (by omega) (by omega)).trans m77, (e _ (by omega) (by omega) (by omega) (by omega) (by omega)).trans m78, (e _ (by omega) (by omega) (by omega) (by omega) (by omega)).trans m79, (e _ (by omega) (by omega) (by omega) (by omega) (by omega)).trans m80, ⟨cn2, e4, fun b hb => by by_cases z : b = a; (subst z; rw [va_up_self]; exact e5); (rw [va_up_ne _ _ z, e6 b z]; exact hcn b hb)⟩, e7, e8, e9, (e _ (by omega) (by omega) (by omega) (by omega) (by omega)).trans m85, (e _ (by omega) (by omega) (by omega) (by omega) (by omega)).trans m86, (e _ (by omega) (by omega) (by omega) (by omega) (by omega)).trans m87, ⟨u88, (e _ (by omega) (by omega) (by omega) (by omega) (by omega)).trans m88⟩, ⟨u89, (e _ (by omega) (by omega) (by omega) (by omega) (by omega)).trans m89⟩, ⟨u90, (e _ (by omega) (by omega) (by omega) (by omega) (by omega)).trans m90⟩⟩, fun y hy => e _ (by omega) (by omega) (by omega) (by omega) (by omega)⟩
set_option maxHeartbeats 1000000 in
theorem s_currency {C : Nat → va_E} {n : Nat} (a0 : Int32) (a1 : Int32) (a2 : Int32) (hI : lw_I C n) : lw_st lw_I md_La_currency md_Mo_currency [.int a0, .int a1, .int a2] 8 C n := by
  obtain ⟨tc, v0, x, q, ln, li, mk, cs, f, T, sh, fr, up, dn, sz, bk, cf, cu, cd, lr, go, zo, gr, vo, se, pr, le, fm, mu, md, h1, h2, h3, h4, o, o91, ov⟩ := hI
  have h1' := h1
  have h2' := h2
  have h4' := h4
  obtain ⟨hxq, o1, ⟨pp, o2⟩, o3, ⟨g4, o4⟩, oM, ⟨Tq, lq, oQ⟩, o23, ⟨co, o24, hco⟩, o65, oR, oC⟩ := h1'
  obtain ⟨⟨nl, ap, m70⟩, m71, m72, ⟨u73, m73⟩, m74, m75, m76, m77, m78, m79, m80, ⟨cn, m81, hcn⟩, m82, m83, m84, m85, m86, m87, ⟨u88, m88⟩, ⟨u89, m89⟩, ⟨u90, m90⟩⟩ := h2'
  obtain ⟨⟨b1, b2, b3, b4, b5⟩, ⟨T0, t1, t2, t3⟩, r1, r2, r3, r4, r5, r6, r7⟩ := h4'
  by_cases c : (0 ≤ a0 ∧ a0 ≤ 10000) ∧ (1 ≤ a1 ∧ a1 ≤ 100000) ∧ (1 ≤ a2 ∧ a2 ≤ 100000)
  case neg => exact lw_no (k := 1) (by decide) h1 h2 h3 h4 ⟨o, o91, ov⟩ (h_currency_IAE o1 (c_RB_currency_x1 o1 (Nat.le_refl 1) (Nat.le_refl 6) c)) (gj_conseq (c_Mo_currency_x1 m70 c) (fun r h => ⟨h.1, h.2.1, lw_mod_70 h2 h.2.2.1 h.2.2.2, h.2.2.2⟩))
  have hpb := pf_pl_le cf a0 cs 0
  by_cases l : pf_pl cf a0 cs 0 < 8
  case neg => exact lw_no (k := 2) (by decide) h1 h2 h3 h4 ⟨o, o91, ov⟩ (h_currency_UOE o1 (c_RB_currency_x2 o1 oC.1 oC.2.1 oC.2.2.1 oC.2.2.2 b4 (Nat.le_refl 1) (Nat.le_refl 6) c l)) (gj_conseq (c_Mo_currency_x2 m70 m85 m86 m87 b4 c l) (fun r h => ⟨h.1, h.2.1, lw_mod_70 h2 h.2.2.1 h.2.2.2, h.2.2.2⟩))
  have x1 := c_RB_currency (d := 4) (K := 1) (N := 6) (n := n) o1 oC.1 oC.2.1 oC.2.2.1 oC.2.2.2 b4 c l
  have x2 := fun (C : Nat → va_E) (nl ap : Nat) k0 k5 k6 k7 => c_Mo_currency (d := 7) (K := 0) (N := 0) (n := n) (sg := ln) (li := li) (nl := nl) (ap := ap) (ns := mk) (dy := cs) (tc := tc) (C := C) (da := cf) (du := cu) (dd := cd) k0 k5 k6 k7 b4 c l
  generalize hp : pf_pl cf a0 cs 0 = p at *
  have hr : lw_rel n x q ln li mk (max cs (p + 1)) f T sh fr up dn sz bk (upd cf p a0) (upd cu p a1) (upd cd p a2) lr go zo gr vo se pr le fm mu md := by
    refine ⟨⟨b1, b2, b3, by omega, b5⟩, ⟨T0, t1, t2, t3⟩, r1, r2, r3, r4, ?_, r6, r7⟩
    intro k hk
    by_cases y : k = p
    · subst y
      rw [upd_self]
      intro e
      rw [e] at c
      exact absurd c.2.2.1 (by decide)
    · rw [upd_ne _ _ y]
      exact r5 k (by omega)
  refine lw_go (v := nI (max cs (p + 1))) (n1 := n) (o := o) (hc := ?_) (h2 := h2) (hm := ?_) (h4 := hr)
  · refine h_currency o1 (gj_conseq (x1) (fun r h => ?_)) (fun C1 h => (h.2.2 91 (Or.inr ⟨by omega, by omega⟩)).trans o91)
    obtain ⟨e1, e2, e3, e⟩ := h
    refine ⟨e1, e2, ⟨hxq, (e _ (by omega)).trans o1, ⟨pp, (e _ (by omega)).trans o2⟩, (e _ (by omega)).trans o3, ⟨g4, (e _ (by omega)).trans o4⟩, pr_M_of oM (fun y ya yb => e _ (by omega)), ⟨Tq, lq, pr_M_of oQ (fun y ya yb => e _ (by omega))⟩, (e _ (by omega)).trans o23, ⟨co, (e _ (by omega)).trans o24, hco⟩, (e _ (by omega)).trans o65, fun a ha => pr_R_of (oR a ha) (fun y ya yb => e _ (by omega)), e3⟩, lw_shm_of h3 (fun y ya yb => e _ (by omega)), fun y hy => e _ (by omega)⟩
  · intro C1 g2
    have g2' := g2
    obtain ⟨⟨nl, ap, m70⟩, m71, m72, ⟨u73, m73⟩, m74, m75, m76, m77, m78, m79, m80, ⟨cn, m81, hcn⟩, m82, m83, m84, m85, m86, m87, ⟨u88, m88⟩, ⟨u89, m89⟩, ⟨u90, m90⟩⟩ := g2'
    refine gj_conseq (x2 C1 nl ap m70 m85 m86 m87) (fun r h => ?_)
    obtain ⟨e1, e2, e3, e4, e5, e6, e⟩ := h
    exact ⟨e1, e2, ⟨⟨_, _, e3⟩, (e _ (by omega) (by omega) (by omega) (by omega)).trans m71, (e _ (by omega) (by omega) (by omega) (by omega)).trans m72, ⟨u73, (e _ (by omega) (by omega) (by omega) (by omega)).trans m73⟩, (e _ (by omega) (by omega) (by omega) (by omega)).trans m74, (e _ (by omega) (by omega) (by omega) (by omega)).trans m75, (e _ (by omega) (by omega) (by omega) (by omega)).trans m76, (e _ (by omega) (by omega) (by omega) (by omega)).trans m77, (e _ (by omega) (by omega) (by omega) (by omega)).trans m78, (e _ (by omega) (by omega) (by omega) (by omega)).trans m79, (e _ (by omega) (by omega) (by omega) (by omega)).trans m80, ⟨cn, (e _ (by omega) (by omega) (by omega) (by omega)).trans m81, hcn⟩, (e _ (by omega) (by omega) (by omega) (by omega)).trans m82, (e _ (by omega) (by omega) (by omega) (by omega)).trans m83, (e _ (by omega) (by omega) (by omega) (by omega)).trans m84, e4, e5, e6, ⟨u88, (e _ (by omega) (by omega) (by omega) (by omega)).trans m88⟩, ⟨u89, (e _ (by omega) (by omega) (by omega) (by omega)).trans m89⟩, ⟨u90, (e _ (by omega) (by omega) (by omega) (by omega)).trans m90⟩⟩, fun y hy => e _ (by omega) (by omega) (by omega) (by omega)⟩
