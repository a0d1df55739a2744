/-! the law: book, invoice, refund, combine -/
set_option maxHeartbeats 1000000 in
theorem s_book {C : Nat → va_E} {n : Nat} (a0 : Int32) (a1 : Int32) (hI : lw_I C n) : lw_st lw_I md_La_book md_Mo_book [.int a0, .int a1] 8 C n := by
  obtain ⟨tc, v0, x, q, ln, li, mk, cs, f, T, sh, fr, up, dn, sz, bk, cf, cu, cd, lr, go, zo, gr, vo, se, pr, le, fm, mu, md, h1, h2, h3, h4, o, o91, ov⟩ := hI
  have h1' := h1
  have h2' := h2
  have h4' := h4
  obtain ⟨hxq, o1, ⟨pp, o2⟩, o3, ⟨g4, o4⟩, oM, ⟨Tq, lq, oQ⟩, o23, ⟨co, o24, hco⟩, o65, oR, oC⟩ := h1'
  obtain ⟨⟨nl, ap, m70⟩, m71, m72, ⟨u73, m73⟩, m74, m75, m76, m77, m78, m79, m80, ⟨cn, m81, hcn⟩, m82, m83, m84, m85, m86, m87, ⟨u88, m88⟩, ⟨u89, m89⟩, ⟨u90, m90⟩⟩ := h2'
  obtain ⟨⟨b1, b2, b3, b4, b5⟩, ⟨T0, t1, t2, t3⟩, r1, r2, r3, r4, r5, r6, r7⟩ := h4'
  cases hp : pr_pn sh a0 with
  | none => exact lw_no (k := 1) (by decide) h1 h2 h3 h4 ⟨o, o91, ov⟩ (h_book_NSE o1 (c_RB_book_x1 o1 o23 (Nat.le_refl 1) (Nat.le_refl 6) hp)) (gj_conseq (c_Mo_book_x1 m70 m74 b3 (lw_pn0 b3 r1 hp)) (fun r h => ⟨h.1, h.2.1, lw_mod_70 h2 h.2.2.1 h.2.2.2, h.2.2.2⟩))
  | some y =>
    obtain ⟨j, hj, e, hg, hy⟩ := lw_pn1 r1 hp
    subst e
    obtain ⟨y1, y2, hY⟩ := h3 j y hy
    by_cases c : 0 ≤ a1 ∧ a1 < 10
    case neg => exact lw_no (k := 2) (by decide) h1 h2 h3 h4 ⟨o, o91, ov⟩ (h_book_IAE o1 (c_RB_book_x2 o1 o23 (Nat.le_refl 1) (Nat.le_refl 6) hp c)) (gj_conseq (c_Mo_book_x2 (s := 0) m70 m74 b3 hj hg (fun z => c (lw_ca.mpr z))) (fun r h => ⟨h.1, h.2.1, lw_mod_70 h2 h.2.2.1 h.2.2.2, h.2.2.2⟩))
    obtain ⟨a, ha, e⟩ := lw_ca1 c
    subst e
    obtain ⟨q1, q2, q3, sj, q4⟩ := r3 j hj
    by_cases s : se j = -1
    case neg =>
      rcases lw_price h4 hj hg ha hy with ⟨p1, p2, p3⟩ | ⟨p1, P, p2, p3, p4⟩
      · exact lw_no (k := 3) (by decide) h1 h2 h3 h4 ⟨o, o91, ov⟩ (h_book_ISE o1 (c_RB_book_x3 o1 o23 hY (Nat.le_refl 1) (Nat.le_refl 6) hp ha s)) (gj_conseq (c_Mo_book_x3 m70 m74 m78 m79 b3 hj hg ha (P := -2) (fun C2 tc2 e70 e => p3 C2 n 5 tc2 (lw_mod_70 h2 e70 e)) ((lw_ge sj).mp s)) (fun r h => ⟨h.1, h.2.1, lw_mod_70 h2 h.2.2.1 h.2.2.2, h.2.2.2⟩))
      · exact lw_no (k := 3) (by decide) h1 h2 h3 h4 ⟨o, o91, ov⟩ (h_book_ISE o1 (c_RB_book_x3 o1 o23 hY (Nat.le_refl 1) (Nat.le_refl 6) hp ha s)) (gj_conseq (c_Mo_book_x3 m70 m74 m78 m79 b3 hj hg ha (P := P) (fun C2 tc2 e70 e => p4 C2 n 5 tc2 (lw_mod_70 h2 e70 e)) ((lw_ge sj).mp s)) (fun r h => ⟨h.1, h.2.1, lw_mod_70 h2 h.2.2.1 h.2.2.2, h.2.2.2⟩))
    rcases lw_price h4 hj hg ha hy with ⟨p1, p2, p3⟩ | ⟨p1, P, p2, p3, p4⟩
    · exact lw_no (k := 4) (by decide) h1 h2 h3 h4 ⟨o, o91, ov⟩ (h_book_AE o1 (c_RB_book_x5 o1 o23 hY (Nat.le_refl 1) (Nat.le_refl 6) hp ha (p2 C n 3 h1 h3) s)) (gj_conseq (c_Mo_book_x4 m70 m74 m78 m79 b3 hj hg ha (P := -2) (fun C2 tc2 e70 e => p3 C2 n 5 tc2 (lw_mod_70 h2 e70 e)) ((lw_m1 sj).mp s) rfl) (fun r h => ⟨h.1, h.2.1, lw_mod_70 h2 h.2.2.1 h.2.2.2, h.2.2.2⟩))
    by_cases pm : P = -1
    · exact lw_no (k := 3) (by decide) h1 h2 h3 h4 ⟨o, o91, ov⟩ (h_book_ISE o1 (c_RB_book_x4 o1 o23 hY (Nat.le_refl 1) (Nat.le_refl 6) hp ha (p3 C n 3 h1 h3) s pm)) (gj_conseq (c_Mo_book_x5 m70 m74 m78 m79 b3 hj hg ha (P := P) (fun C2 tc2 e70 e => p4 C2 n 5 tc2 (lw_mod_70 h2 e70 e)) ((lw_m1 sj).mp s) pm) (fun r h => ⟨h.1, h.2.1, lw_mod_70 h2 h.2.2.1 h.2.2.2, h.2.2.2⟩))
    have p5 : ¬ P = -2 := by
      rcases p2 with z | ⟨Q, z1, z⟩
      · exact absurd z pm
      · rw [z]; intro e; have := nI_pos (n := Q) (by omega); rw [e] at this; exact this (by decide)
    have hr : lw_rel n x q ln li mk cs f T sh fr up dn sz (upd bk a (bk a + 1)) cf cu cd lr go zo gr vo (upd se j (nI a)) (upd pr j P) le fm mu md := by
      refine ⟨⟨b1, b2, b3, b4, b5⟩, ⟨T0, t1, t2, t3⟩, r1, r2, ?_, r4, r5, ?_, r7⟩
      · intro i hi
        by_cases w : i = j
        · subst w
          rw [upd_self]
          exact ⟨q1, q2, q3, Or.inr (nI_pos' (by omega)), q4⟩
        · rw [upd_ne _ _ w]
          exact r3 i hi
      · intro b hb
        rw [pl_bk_u hg (by rw [s]; exact fun z => nI_m1 (by omega) z.symm) mk hj]
        by_cases w : b = a
        · subst w
          rw [upd_self, if_pos rfl, r6 b hb]
        · rw [upd_ne _ _ w, if_neg (fun z => w ((nI_eq (by omega) (by omega)).mp z).symm), r6 b hb]
    refine lw_go (v := P) (n1 := n) (o := o) (hc := ?_) (h2 := h2) (hm := ?_) (h4 := hr)
    · refine h_book o1 (gj_conseq (c_RB_book o1 o23 hY o65 hp ha (p3 C n 3 h1 h3) s pm (by omega)) (fun r h => ?_)) (fun C1 h => (h.2.2 91 (Or.inr ⟨by omega, by omega⟩)).trans o91)
      obtain ⟨e1, e2, e3, e4, e⟩ := h
      refine ⟨e1, e2, ⟨hxq, (e _ (by omega) (by omega)).trans o1, ⟨pp, (e _ (by omega) (by omega)).trans o2⟩, (e _ (by omega) (by omega)).trans o3, ⟨g4, (e _ (by omega) (by omega)).trans o4⟩, pr_M_of oM (fun y ya yb => e _ (by omega) (by omega)), ⟨Tq, lq, pr_M_of oQ (fun y ya yb => e _ (by omega) (by omega))⟩, (e _ (by omega) (by omega)).trans o23, ⟨co, (e _ (by omega) (by omega)).trans o24, hco⟩, e4, fun a ha => pr_R_of (oR a ha) (fun y ya yb => e _ (by omega) (by omega)), pr_R_of oC (fun y ya yb => e _ (by omega) (by omega))⟩, ?_, fun y hy => e _ (by omega) (by omega)⟩
      intro i z hz
      by_cases w : i = j
      · subst w
        have wy : z = y := by rw [hy] at hz; cases hz; rfl
        subst wy
        rw [upd_self, upd_self]; exact ⟨y1, y2, e3⟩
      · have wy : z ≠ y := fun q => w (r2 i j y (q ▸ hz) hy)
        obtain ⟨z1, z2, z3⟩ := h3 i z hz
        rw [upd_ne _ _ w, upd_ne _ _ w]
        exact ⟨z1, z2, (e _ (by omega) (by omega)).trans z3⟩
    · intro C1 g2
      have g2' := g2
      obtain ⟨⟨nl, ap, m70⟩, m71, m72, ⟨u73, m73⟩, m74, m75, m76, m77, m78, m79, m80, ⟨cn, m81, hcn⟩, m82, m83, m84, m85, m86, m87, ⟨u88, m88⟩, ⟨u89, m89⟩, ⟨u90, m90⟩⟩ := g2'
      refine gj_conseq (c_Mo_book m70 m74 m78 m79 b3 hj hg ha (P := P) (fun C2 tc2 e70 e => p4 C2 n 5 tc2 (lw_mod_70 g2 e70 e)) ((lw_m1 sj).mp s) p5 pm) (fun r h => ?_)
      obtain ⟨e1, e2, e3, e4, e5, e⟩ := h
      exact ⟨e1, e2, ⟨⟨nl, ap, e3⟩, (e _ (by omega) (by omega) (by omega)).trans m71, (e _ (by omega) (by omega) (by omega)).trans m72, ⟨u73, (e _ (by omega) (by omega) (by omega)).trans m73⟩, (e _ (by omega) (by omega) (by omega)).trans m74, (e _ (by omega) (by omega) (by omega)).trans m75, (e _ (by omega) (by omega) (by omega)).trans m76, (e _ (by omega) (by omega) (by omega)).trans m77, e4, e5, (e _ (by omega) (by omega) (by omega)).trans m80, ⟨cn, (e _ (by omega) (by omega) (by omega)).trans m81, hcn⟩, (e _ (by omega) (by omega) (by omega)).trans m82, (e _ (by omega) (by omega) (by omega)).trans m83, (e _ (by omega) (by omega) (by omega)).trans m84, (e _ (by omega) (by omega) (by omega)).trans m85, (e _ (by omega) (by omega) (by omega)).trans m86, (e _ (by omega) (by omega) (by omega)).trans m87, ⟨u88, (e _ (by omega) (by omega) (by omega)).trans m88⟩, ⟨u89, (e _ (by omega) (by omega) (by omega)).trans m89⟩, ⟨u90, (e _ (by omega) (by omega) (by omega)).trans m90⟩⟩, fun y hy => e _ (by omega) (by omega) (by omega)⟩
set_option maxHeartbeats 1000000 in
theorem s_invoice {C : Nat → va_E} {n : Nat} (a0 : Int32) (a1 : Int32) (hI : lw_I C n) : lw_st lw_I md_La_invoice md_Mo_invoice [.int a0, .int a1] 8 C n := by
  obtain ⟨tc, v0, x, q, ln, li, mk, cs, f, T, sh, fr, up, dn, sz, bk, cf, cu, cd, lr, go, zo, gr, vo, se, pr, le, fm, mu, md, h1, h2, h3, h4, o, o91, ov⟩ := hI
  have h1' := h1
  have h2' := h2
  have h4' := h4
  obtain ⟨hxq, o1, ⟨pp, o2⟩, o3, ⟨g4, o4⟩, oM, ⟨Tq, lq, oQ⟩, o23, ⟨co, o24, hco⟩, o65, oR, oC⟩ := h1'
  obtain ⟨⟨nl, ap, m70⟩, m71, m72, ⟨u73, m73⟩, m74, m75, m76, m77, m78, m79, m80, ⟨cn, m81, hcn⟩, m82, m83, m84, m85, m86, m87, ⟨u88, m88⟩, ⟨u89, m89⟩, ⟨u90, m90⟩⟩ := h2'
  obtain ⟨⟨b1, b2, b3, b4, b5⟩, ⟨T0, t1, t2, t3⟩, r1, r2, r3, r4, r5, r6, r7⟩ := h4'
  cases hp : pr_pn sh a0 with
  | none => exact lw_no (k := 1) (by decide) h1 h2 h3 h4 ⟨o, o91, ov⟩ (h_invoice_NSE o1 (c_RB_invoice_x1 o1 o23 (Nat.le_refl 1) (Nat.le_refl 6) hp)) (gj_conseq (c_Mo_invoice_x1 m70 m74 b3 (lw_pn0 b3 r1 hp)) (fun r h => ⟨h.1, h.2.1, lw_mod_70 h2 h.2.2.1 h.2.2.2, h.2.2.2⟩))
  | some y =>
    obtain ⟨j, hj, e, hg, hy⟩ := lw_pn1 r1 hp
    subst e
    obtain ⟨y1, y2, hY⟩ := h3 j y hy
    by_cases c : 0 ≤ a1 ∧ a1 ≤ 10000000
    case neg => exact lw_no (k := 2) (by decide) h1 h2 h3 h4 ⟨o, o91, ov⟩ (h_invoice_IAE o1 (c_RB_invoice_x2 o1 o23 (Nat.le_refl 1) (Nat.le_refl 6) hp c)) (gj_conseq (c_Mo_invoice_x2 (s := 0) m70 m74 b3 hj hg c) (fun r h => ⟨h.1, h.2.1, lw_mod_70 h2 h.2.2.1 h.2.2.2, h.2.2.2⟩))
    obtain ⟨q1, q2, q3, sj, lj⟩ := r3 j hj
    by_cases s : ¬ se j = -1 ∧ le j = -1
    case neg => exact lw_no (k := 3) (by decide) h1 h2 h3 h4 ⟨o, o91, ov⟩ (h_invoice_ISE o1 (c_RB_invoice_x3 o1 o23 hY (Nat.le_refl 1) (Nat.le_refl 6) hp c s)) (gj_conseq (c_Mo_invoice_x3 m70 m74 m78 m79 m80 b3 hj hg c (fun z => s ⟨(lw_ge sj).mpr z.1, (lw_m1 lj).mpr z.2⟩)) (fun r h => ⟨h.1, h.2.1, lw_mod_70 h2 h.2.2.1 h.2.2.2, h.2.2.2⟩))
    have hr : lw_rel n x q ln li mk cs f T sh fr up dn sz bk cf cu cd lr go zo gr vo se pr (upd le j a1) fm mu md := by
      refine ⟨⟨b1, b2, b3, b4, b5⟩, ⟨T0, t1, t2, t3⟩, r1, r2, ?_, r4, r5, r6, r7⟩
      intro i hi
      by_cases w : i = j
      · subst w
        rw [upd_self]
        exact ⟨q1, q2, q3, sj, Or.inr (c.1)⟩
      · rw [upd_ne _ _ w]
        exact r3 i hi
    refine lw_go (v := a1 - pr j) (n1 := n) (o := o) (hc := ?_) (h2 := h2) (hm := ?_) (h4 := hr)
    · refine h_invoice o1 (gj_conseq (c_RB_invoice o1 o23 hY hp c s.1 s.2 (by omega)) (fun r h => ?_)) (fun C1 h => (h.2.2 91 (Or.inr ⟨by omega, by omega⟩)).trans o91)
      obtain ⟨e1, e2, e3, e⟩ := h
      refine ⟨e1, e2, ⟨hxq, (e _ (by omega)).trans o1, ⟨pp, (e _ (by omega)).trans o2⟩, (e _ (by omega)).trans o3, ⟨g4, (e _ (by omega)).trans o4⟩, pr_M_of oM (fun y ya yb => e _ (by omega)), ⟨Tq, lq, pr_M_of oQ (fun y ya yb => e _ (by omega))⟩, (e _ (by omega)).trans o23, ⟨co, (e _ (by omega)).trans o24, hco⟩, (e _ (by omega)).trans o65, fun a ha => pr_R_of (oR a ha) (fun y ya yb => e _ (by omega)), pr_R_of oC (fun y ya yb => e _ (by omega))⟩, ?_, fun y hy => e _ (by omega)⟩
      intro i z hz
      by_cases w : i = j
      · subst w
        have wy : z = y := by rw [hy] at hz; cases hz; rfl
        subst wy
        rw [upd_self]; exact ⟨y1, y2, e3⟩
      · have wy : z ≠ y := fun q => w (r2 i j y (q ▸ hz) hy)
        obtain ⟨z1, z2, z3⟩ := h3 i z hz
        rw [upd_ne _ _ w]
        exact ⟨z1, z2, (e _ (by omega)).trans z3⟩
    · intro C1 g2
      have g2' := g2
      obtain ⟨⟨nl, ap, m70⟩, m71, m72, ⟨u73, m73⟩, m74, m75, m76, m77, m78, m79, m80, ⟨cn, m81, hcn⟩, m82, m83, m84, m85, m86, m87, ⟨u88, m88⟩, ⟨u89, m89⟩, ⟨u90, m90⟩⟩ := g2'
      refine gj_conseq (c_Mo_invoice m70 m74 m78 m79 m80 b3 hj hg c ((lw_ge sj).mp s.1) ((lw_m1 lj).mp s.2)) (fun r h => ?_)
      obtain ⟨e1, e2, e3, e4, e⟩ := h
      exact ⟨e1, e2, ⟨⟨nl, ap, e3⟩, (e _ (by omega) (by omega)).trans m71, (e _ (by omega) (by omega)).trans m72, ⟨u73, (e _ (by omega) (by omega)).trans m73⟩, (e _ (by omega) (by omega)).trans m74, (e _ (by omega) (by omega)).trans m75, (e _ (by omega) (by omega)).trans m76, (e _ (by omega) (by omega)).trans m77, (e _ (by omega) (by omega)).trans m78, (e _ (by omega) (by omega)).trans m79, e4, ⟨cn, (e _ (by omega) (by omega)).trans m81, hcn⟩, (e _ (by omega) (by omega)).trans m82, (e _ (by omega) (by omega)).trans m83, (e _ (by omega) (by omega)).trans m84, (e _ (by omega) (by omega)).trans m85, (e _ (by omega) (by omega)).trans m86, (e _ (by omega) (by omega)).trans m87, ⟨u88, (e _ (by omega) (by omega)).trans m88⟩, ⟨u89, (e _ (by omega) (by omega)).trans m89⟩, ⟨u90, (e _ (by omega) (by omega)).trans m90⟩⟩, fun y hy => e _ (by omega) (by omega)⟩
set_option maxHeartbeats 1000000 in
theorem s_refund {C : Nat → va_E} {n : Nat} (a0 : Int32) (a1 : Int32) (hI : lw_I C n) : lw_st lw_I md_La_refund md_Mo_refund [.int a0, .int a1] 8 C n := by
  obtain ⟨tc, v0, x, q, ln, li, mk, cs, f, T, sh, fr, up, dn, sz, bk, cf, cu, cd, lr, go, zo, gr, vo, se, pr, le, fm, mu, md, h1, h2, h3, h4, o, o91, ov⟩ := hI
  have h1' := h1
  have h2' := h2
  have h4' := h4
  obtain ⟨hxq, o1, ⟨pp, o2⟩, o3, ⟨g4, o4⟩, oM, ⟨Tq, lq, oQ⟩, o23, ⟨co, o24, hco⟩, o65, oR, oC⟩ := h1'
  obtain ⟨⟨nl, ap, m70⟩, m71, m72, ⟨u73, m73⟩, m74, m75, m76, m77, m78, m79, m80, ⟨cn, m81, hcn⟩, m82, m83, m84, m85, m86, m87, ⟨u88, m88⟩, ⟨u89, m89⟩, ⟨u90, m90⟩⟩ := h2'
  obtain ⟨⟨b1, b2, b3, b4, b5⟩, ⟨T0, t1, t2, t3⟩, r1, r2, r3, r4, r5, r6, r7⟩ := h4'
  cases hp : pr_pn sh a0 with
  | none => exact lw_no (k := 1) (by decide) h1 h2 h3 h4 ⟨o, o91, ov⟩ (h_refund_NSE o1 (c_RB_refund_x1 o1 o23 (Nat.le_refl 1) (Nat.le_refl 6) hp)) (gj_conseq (c_Mo_refund_x1 m70 m74 b3 (lw_pn0 b3 r1 hp)) (fun r h => ⟨h.1, h.2.1, lw_mod_70 h2 h.2.2.1 h.2.2.2, h.2.2.2⟩))
  | some y =>
    obtain ⟨j, hj, e, hg, hy⟩ := lw_pn1 r1 hp
    subst e
    obtain ⟨y1, y2, hY⟩ := h3 j y hy
    by_cases c : 1 ≤ a1 ∧ a1 ≤ 10000000
    case neg => exact lw_no (k := 2) (by decide) h1 h2 h3 h4 ⟨o, o91, ov⟩ (h_refund_IAE o1 (c_RB_refund_x2 o1 o23 (Nat.le_refl 1) (Nat.le_refl 6) hp c)) (gj_conseq (c_Mo_refund_x2 (s := 0) m70 m74 b3 hj hg c) (fun r h => ⟨h.1, h.2.1, lw_mod_70 h2 h.2.2.1 h.2.2.2, h.2.2.2⟩))
    obtain ⟨q1, q2, q3, sj, lj⟩ := r3 j hj
    by_cases s : a1 ≤ le j
    case neg => exact lw_no (k := 3) (by decide) h1 h2 h3 h4 ⟨o, o91, ov⟩ (h_refund_ISE o1 (c_RB_refund_x3 o1 o23 hY (Nat.le_refl 1) (Nat.le_refl 6) hp c (fun z => s z.2))) (gj_conseq (c_Mo_refund_x3 m70 m74 m78 m79 m80 b3 hj hg c (Int32.not_le.mp s)) (fun r h => ⟨h.1, h.2.1, lw_mod_70 h2 h.2.2.1 h.2.2.2, h.2.2.2⟩))
    have l0 : 0 ≤ le j := Int32.le_trans (Int32.le_trans (by decide) c.1) s
    have l1 : 0 ≤ le j - a1 := by
      obtain ⟨x, x1, x2⟩ := nI_of (Int32.not_lt.mpr l0)
      obtain ⟨z, z1, z2⟩ := nI_of (Int32.not_lt.mpr (Int32.le_trans (by decide) c.1 : (0 : Int32) ≤ a1))
      rw [x2, z2] at s ⊢
      have := (nI_leI z1 x1).mp s
      rw [Int32.le_iff_toInt_le, Int32.toInt_sub, nI_toInt x1, nI_toInt z1, Int.bmod_eq_of_le (by omega) (by omega), show (0 : Int32).toInt = 0 by decide]
      omega
    have hr : lw_rel n x q ln li mk cs f T sh fr up dn sz bk cf cu cd lr go zo gr vo se pr (upd le j (le j - a1)) fm mu md := by
      refine ⟨⟨b1, b2, b3, b4, b5⟩, ⟨T0, t1, t2, t3⟩, r1, r2, ?_, r4, r5, r6, r7⟩
      intro i hi
      by_cases w : i = j
      · subst w
        rw [upd_self]
        exact ⟨q1, q2, q3, sj, Or.inr (l1)⟩
      · rw [upd_ne _ _ w]
        exact r3 i hi
    refine lw_go (v := le j - a1) (n1 := n) (o := o) (hc := ?_) (h2 := h2) (hm := ?_) (h4 := hr)
    · refine h_refund o1 (gj_conseq (c_RB_refund o1 o23 hY hp c ((lw_ge lj).mpr l0) s (by omega)) (fun r h => ?_)) (fun C1 h => (h.2.2 91 (Or.inr ⟨by omega, by omega⟩)).trans o91)
      obtain ⟨e1, e2, e3, e⟩ := h
      refine ⟨e1, e2, ⟨hxq, (e _ (by omega)).trans o1, ⟨pp, (e _ (by omega)).trans o2⟩, (e _ (by omega)).trans o3, ⟨g4, (e _ (by omega)).trans o4⟩, pr_M_of oM (fun y ya yb => e _ (by omega)), ⟨Tq, lq, pr_M_of oQ (fun y ya yb => e _ (by omega))⟩, (e _ (by omega)).trans o23, ⟨co, (e _ (by omega)).trans o24, hco⟩, (e _ (by omega)).trans o65, fun a ha => pr_R_of (oR a ha) (fun y ya yb => e _ (by omega)), pr_R_of oC (fun y ya yb => e _ (by omega))⟩, ?_, fun y hy => e _ (by omega)⟩
      intro i z hz
      by_cases w : i = j
      · subst w
        have wy : z = y := by rw [hy] at hz; cases hz; rfl
        subst wy
        rw [upd_self]; exact ⟨y1, y2, e3⟩
      · have wy : z ≠ y := fun q => w (r2 i j y (q ▸ hz) hy)
        obtain ⟨z1, z2, z3⟩ := h3 i z hz
        rw [upd_ne _ _ w]
        exact ⟨z1, z2, (e _ (by omega)).trans z3⟩
    · intro C1 g2
      have g2' := g2
      obtain ⟨⟨nl, ap, m70⟩, m71, m72, ⟨u73, m73⟩, m74, m75, m76, m77, m78, m79, m80, ⟨cn, m81, hcn⟩, m82, m83, m84, m85, m86, m87, ⟨u88, m88⟩, ⟨u89, m89⟩, ⟨u90, m90⟩⟩ := g2'
      refine gj_conseq (c_Mo_refund m70 m74 m78 m79 m80 b3 hj hg c s) (fun r h => ?_)
      obtain ⟨e1, e2, e3, e4, e⟩ := h
      exact ⟨e1, e2, ⟨⟨nl, ap, e3⟩, (e _ (by omega) (by omega)).trans m71, (e _ (by omega) (by omega)).trans m72, ⟨u73, (e _ (by omega) (by omega)).trans m73⟩, (e _ (by omega) (by omega)).trans m74, (e _ (by omega) (by omega)).trans m75, (e _ (by omega) (by omega)).trans m76, (e _ (by omega) (by omega)).trans m77, (e _ (by omega) (by omega)).trans m78, (e _ (by omega) (by omega)).trans m79, e4, ⟨cn, (e _ (by omega) (by omega)).trans m81, hcn⟩, (e _ (by omega) (by omega)).trans m82, (e _ (by omega) (by omega)).trans m83, (e _ (by omega) (by omega)).trans m84, (e _ (by omega) (by omega)).trans m85, (e _ (by omega) (by omega)).trans m86, (e _ (by omega) (by omega)).trans m87, ⟨u88, (e _ (by omega) (by omega)).trans m88⟩, ⟨u89, (e _ (by omega) (by omega)).trans m89⟩, ⟨u90, (e _ (by omega) (by omega)).trans m90⟩⟩, fun y hy => e _ (by omega) (by omega)⟩
set_option maxHeartbeats 1000000 in
theorem s_combine {C : Nat → va_E} {n : Nat} (a0 : Int32) (a1 : Int32) (hI : lw_I C n) : lw_st lw_I md_La_combine md_Mo_combine [.int a0, .int a1] 8 C n := by
  obtain ⟨tc, v0, x, q, ln, li, mk, cs, f, T, sh, fr, up, dn, sz, bk, cf, cu, cd, lr, go, zo, gr, vo, se, pr, le, fm, mu, md, h1, h2, h3, h4, o, o91, ov⟩ := hI
  have h1' := h1
  have h2' := h2
  have h4' := h4
  obtain ⟨hxq, o1, ⟨pp, o2⟩, o3, ⟨g4, o4⟩, oM, ⟨Tq, lq, oQ⟩, o23, ⟨co, o24, hco⟩, o65, oR, oC⟩ := h1'
  obtain ⟨⟨nl, ap, m70⟩, m71, m72, ⟨u73, m73⟩, m74, m75, m76, m77, m78, m79, m80, ⟨cn, m81, hcn⟩, m82, m83, m84, m85, m86, m87, ⟨u88, m88⟩, ⟨u89, m89⟩, ⟨u90, m90⟩⟩ := h2'
  obtain ⟨⟨b1, b2, b3, b4, b5⟩, ⟨T0, t1, t2, t3⟩, r1, r2, r3, r4, r5, r6, r7⟩ := h4'
  cases hp : pr_pn sh a0 with
  | none => exact lw_no (k := 1) (by decide) h1 h2 h3 h4 ⟨o, o91, ov⟩ (h_combine_NSE o1 (c_RB_combine_x1 o1 o23 (Nat.le_refl 1) (Nat.le_refl 6) hp)) (gj_conseq (c_Mo_combine_x1 m70 m74 b3 (lw_pn0 b3 r1 hp)) (fun r h => ⟨h.1, h.2.1, lw_mod_70 h2 h.2.2.1 h.2.2.2, h.2.2.2⟩))
  | some y =>
    obtain ⟨j, hj, e, hg, hy⟩ := lw_pn1 r1 hp
    subst e
    obtain ⟨y1, y2, hY⟩ := h3 j y hy
    cases hq : pr_pn sh a1 with
    | none => exact lw_no (k := 1) (by decide) h1 h2 h3 h4 ⟨o, o91, ov⟩ (h_combine_NSE o1 (c_RB_combine_x1b o1 o23 (Nat.le_refl 1) (Nat.le_refl 6) hp hq)) (gj_conseq (c_Mo_combine_x1b (s := 0) m70 m74 b3 hj hg (lw_pn0 b3 r1 hq)) (fun r h => ⟨h.1, h.2.1, lw_mod_70 h2 h.2.2.1 h.2.2.2, h.2.2.2⟩))
    | some y9 =>
      obtain ⟨i, hi, e, hgi, hyi⟩ := lw_pn1 r1 hq
      subst e
      obtain ⟨y3, y4, hYi⟩ := h3 i y9 hyi
      obtain ⟨q1, ⟨G, u1, u2, u3⟩, ⟨V, u4, u5⟩, sj, lj⟩ := r3 j hj
      obtain ⟨w1, ⟨G9, w2, w3, w4⟩, ⟨V9, w5, w6⟩, si, l9⟩ := r3 i hi
      by_cases c : ¬ nI j = nI i ∧ se j = -1 ∧ se i = -1 ∧ zo j = zo i ∧ gr j + gr i ≤ 100000 ∧ vo j + vo i ≤ 100000000
      case neg => exact lw_no (k := 2) (by decide) h1 h2 h3 h4 ⟨o, o91, ov⟩ (h_combine_ISE o1 (c_RB_combine_x2 o1 o23 hY hYi (Nat.le_refl 1) (Nat.le_refl 6) hp hq c)) (gj_conseq (c_Mo_combine_x2 m70 m74 m75 m76 m77 m78 b3 hj hg hi hgi (fun z => c ⟨fun q => z.1 ((nI_eq (by omega) (by omega)).mp q), (lw_m1 sj).mpr z.2.1, (lw_m1 si).mpr z.2.2.1, z.2.2.2⟩)) (fun r h => ⟨h.1, h.2.1, lw_mod_70 h2 h.2.2.1 h.2.2.2, h.2.2.2⟩))
      obtain ⟨c1, c2, c3, c4, c5, c6⟩ := c
      have hne : ¬ j = i := fun z => c1 (by rw [z])
      have k5 : G + G9 ≤ 100000 := by rw [u3, w4, nI_add] at c5; exact (nI_leI (b := 100000) (by omega) (by decide)).mp c5
      have k6 : V + V9 ≤ 100000000 := by rw [u5, w6, nI_add] at c6; exact (nI_leI (b := 100000000) (by omega) (by decide)).mp c6
      have hyy : y ≠ y9 := fun z => hne (r2 j i y hy (z ▸ hyi))
      have hr : lw_rel n x q ln li mk cs f T (va_up sh i none) fr up dn sz bk cf cu cd lr (upd go i 1) zo (upd gr j (gr j + gr i)) (upd vo j (vo j + vo i)) se pr le fm mu md := by
        refine ⟨⟨b1, b2, b3, b4, b5⟩, ⟨T0, t1, t2, t3⟩, ?_, ?_, ?_, r4, r5, ?_, ?_⟩
        · intro k
          by_cases w : k = i
          · subst w
            rw [va_up_self, upd_self]
            exact ⟨fun _ z => absurd z.2 (by decide), fun _ => rfl⟩
          · rw [va_up_ne _ _ w, upd_ne _ _ w]
            exact r1 k
        · intro k m z hk hm
          by_cases wk : k = i
          · rw [wk, va_up_self] at hk; exact nomatch hk
          · by_cases wm : m = i
            · rw [wm, va_up_self] at hm; exact nomatch hm
            · rw [va_up_ne _ _ wk] at hk
              rw [va_up_ne _ _ wm] at hm
              exact r2 k m z hk hm
        · intro k hk
          by_cases w : k = j
          · subst w
            rw [upd_self, upd_self]
            exact ⟨q1, ⟨G + G9, by omega, k5, by rw [u3, w4, nI_add]⟩, ⟨V + V9, k6, by rw [u5, w6, nI_add]⟩, sj, lj⟩
          · rw [upd_ne _ _ w, upd_ne _ _ w]
            exact r3 k hk
        · intro b hb
          rw [r6 b hb]
          refine pl_bk_c _ _ _ (fun k _ hk => ?_)
          by_cases w : k = i
          · subst w
            rw [c3]
            exact ⟨fun z => absurd z.2.symm (nI_m1 (by omega)), fun z => absurd z.2.symm (nI_m1 (by omega))⟩
          · rw [upd_ne _ _ w]
        · intro k hk
          rw [upd_ne _ _ (by omega)]
          exact r7 k hk
      refine lw_go (v := gr j + gr i) (n1 := n) (o := o) (hc := ?_) (h2 := h2) (hm := ?_) (h4 := hr)
      · refine h_combine o1 (gj_conseq (c_RB_combine (j := i) o1 o23 hY hYi (by omega) hp hq ⟨c1, c2, c3, c4, c5, c6⟩ hyy (by omega) (by omega)) (fun r h => ?_)) (fun C1 h => (h.2.2 91 (Or.inr ⟨by omega, by omega⟩)).trans o91)
        obtain ⟨e1, e2, e3, e4, e⟩ := h
        refine ⟨e1, e2, ⟨hxq, (e _ (by omega) (by omega)).trans o1, ⟨pp, (e _ (by omega) (by omega)).trans o2⟩, (e _ (by omega) (by omega)).trans o3, ⟨g4, (e _ (by omega) (by omega)).trans o4⟩, pr_M_of oM (fun y ya yb => e _ (by omega) (by omega)), ⟨Tq, lq, pr_M_of oQ (fun y ya yb => e _ (by omega) (by omega))⟩, e4, ⟨co, (e _ (by omega) (by omega)).trans o24, hco⟩, (e _ (by omega) (by omega)).trans o65, fun a ha => pr_R_of (oR a ha) (fun y ya yb => e _ (by omega) (by omega)), pr_R_of oC (fun y ya yb => e _ (by omega) (by omega))⟩, ?_, fun y hy => e _ (by omega) (by omega)⟩
        intro k z hz
        by_cases w9 : k = i
        · rw [w9, va_up_self] at hz; exact nomatch hz
        rw [va_up_ne _ _ w9] at hz
        by_cases w : k = j
        · subst w
          have wy : z = y := by rw [hy] at hz; cases hz; rfl
          subst wy
          rw [upd_self, upd_self]
          exact ⟨y1, y2, e3⟩
        · have wy : z ≠ y := fun q => w (r2 k j y (q ▸ hz) hy)
          obtain ⟨z1, z2, z3⟩ := h3 k z hz
          rw [upd_ne _ _ w, upd_ne _ _ w]
          exact ⟨z1, z2, (e _ (by omega) (by omega)).trans z3⟩
      · intro C1 g2
        have g2' := g2
        obtain ⟨⟨nl, ap, m70⟩, m71, m72, ⟨u73, m73⟩, m74, m75, m76, m77, m78, m79, m80, ⟨cn, m81, hcn⟩, m82, m83, m84, m85, m86, m87, ⟨u88, m88⟩, ⟨u89, m89⟩, ⟨u90, m90⟩⟩ := g2'
        refine gj_conseq (c_Mo_combine m70 m74 m75 m76 m77 m78 b3 hj hg hi hgi ⟨hne, (lw_m1 sj).mp c2, (lw_m1 si).mp c3, c4, c5, c6⟩) (fun r h => ?_)
        obtain ⟨e1, e2, e3, e4, e5, e6, e⟩ := h
        exact ⟨e1, e2, ⟨⟨nl, ap, e3⟩, (e _ (by omega) (by omega) (by omega) (by omega)).trans m71, (e _ (by omega) (by omega) (by omega) (by omega)).trans m72, ⟨u73, (e _ (by omega) (by omega) (by omega) (by omega)).trans m73⟩, e4, (e _ (by omega) (by omega) (by omega) (by omega)).trans m75, e5, e6, (e _ (by omega) (by omega) (by omega) (by omega)).trans m78, (e _ (by omega) (by omega) (by omega) (by omega)).trans m79, (e _ (by omega) (by omega) (by omega) (by omega)).trans m80, ⟨cn, (e _ (by omega) (by omega) (by omega) (by omega)).trans m81, hcn⟩, (e _ (by omega) (by omega) (by omega) (by omega)).trans m82, (e _ (by omega) (by omega) (by omega) (by omega)).trans m83, (e _ (by omega) (by omega) (by omega) (by omega)).trans m84, (e _ (by omega) (by omega) (by omega) (by omega)).trans m85, (e _ (by omega) (by omega) (by omega) (by omega)).trans m86, (e _ (by omega) (by omega) (by omega) (by omega)).trans m87, ⟨u88, (e _ (by omega) (by omega) (by omega) (by omega)).trans m88⟩, ⟨u89, (e _ (by omega) (by omega) (by omega) (by omega)).trans m89⟩, ⟨u90, (e _ (by omega) (by omega) (by omega) (by omega)).trans m90⟩⟩, fun y hy => e _ (by omega) (by omega) (by omega) (by omega)⟩
