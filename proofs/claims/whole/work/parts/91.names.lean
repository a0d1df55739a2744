/-! the law: shipments and carriers by number -/
theorem lw_pn0 {sh : Nat → Option Nat} {go : Nat → Int32} {mk : Nat} {s : Int32} (hm : mk ≤ 20) (r1 : ∀ j, sh j = none ↔ ¬ (j < mk ∧ go j = 0)) (h : pr_pn sh s = none) : ¬ ∃ j, j < mk ∧ s = nI j ∧ go j = 0 := by
  rintro ⟨j, j1, j2, j3⟩
  rw [j2, pr_pn_of (by omega)] at h
  exact (r1 j).mp h ⟨j1, j3⟩
theorem lw_pn1 {sh : Nat → Option Nat} {go : Nat → Int32} {mk : Nat} {s : Int32} (r1 : ∀ j, sh j = none ↔ ¬ (j < mk ∧ go j = 0)) {y : Nat} (h : pr_pn sh s = some y) : ∃ j, j < mk ∧ s = nI j ∧ go j = 0 ∧ sh j = some y := by
  obtain ⟨j, j1, j2, j3⟩ := pr_pn_some h
  have : j < mk ∧ go j = 0 := Classical.byContradiction (fun z => by rw [(r1 j).mpr z] at j3; exact nomatch j3)
  exact ⟨j, this.1, j2, this.2, j3⟩
theorem lw_ca {a : Int32} : (0 ≤ a ∧ a < 10) ↔ (0 ≤ a ∧ a ≤ 9) := by
  rw [Int32.le_iff_toInt_le, Int32.lt_iff_toInt_lt, Int32.le_iff_toInt_le, show (10 : Int32).toInt = 10 by decide, show (9 : Int32).toInt = 9 by decide]
  omega
theorem lw_ca1 {a : Int32} (h : 0 ≤ a ∧ a < 10) : ∃ j, j < 10 ∧ a = nI j := by
  obtain ⟨j, j1, j2⟩ := nI_of (Int32.not_lt.mpr h.1)
  refine ⟨j, ?_, j2⟩
  rw [j2] at h
  exact (nI_ltI (b := 10) j1 (by decide)).mp h.2
theorem lw_m1 {s : Int32} (h : s = -1 ∨ 0 ≤ s) : (s = -1 ↔ s < 0) := by
  rcases h with h | h
  · rw [h]; exact ⟨fun _ => by decide, fun _ => rfl⟩
  · exact ⟨fun e => by rw [e] at h; exact absurd h (by decide), fun e => absurd e (Int32.not_lt.mpr h)⟩
theorem lw_ge {s : Int32} (h : s = -1 ∨ 0 ≤ s) : (¬ s = -1 ↔ 0 ≤ s) := by
  rw [lw_m1 h]; exact Int32.not_lt
/-- the price now, alike -/
theorem lw_price {x : Nat} {q : Nat} {ln : Nat} {li : Nat} {mk : Nat} {cs : Nat} {f : Nat → Int32} {T : pr_T} {sh : Nat → Option Nat} {fr : Nat → Nat → Int32} {up : Nat → Nat → Int32} {dn : Nat → Nat → Int32} {sz : Nat → Nat} {bk : Nat → Int32} {cf : Nat → Int32} {cu : Nat → Int32} {cd : Nat → Int32} {lr : Nat → Int32} {go : Nat → Int32} {zo : Nat → Int32} {gr : Nat → Int32} {vo : Nat → Int32} {se : Nat → Int32} {pr : Nat → Int32} {le : Nat → Int32} {fm : Nat → Int32} {mu : Nat → Int32} {md : Nat → Int32} {n0 : Nat} (h4 : lw_rel n0 x q ln li mk cs f T sh fr up dn sz bk cf cu cd lr go zo gr vo se pr le fm mu md) {j a y : Nat} (hj : j < mk) (hg : go j = 0) (ha : a < 10) (hy : sh j = some y) :
    (T.2.2.2.2.1 a = 0 ∧ (∀ (C : Nat → va_E) (n d : Nat), lw_cls C x q ln li mk cs f T sh fr up dn sz bk cf cu cd → lw_shm C n sh zo gr vo se pr le → gj_G md_RB_priceNow (d + 3) 1 6 0 0 0 [(0, .ref (1)), (1, .ref (y)), (2, .int (nI a))] [] n C (fun r => r = (.inr "java/lang/ArithmeticException", n, C))) ∧ (∀ (C : Nat → va_E) (n d : Nat) (tc : Int32), lw_mod C tc ln li mk cs f sz cf cu cd lr go zo gr vo se pr le fm mu md → gj_G md_Mo_priceOf (d + 2) 0 0 0 0 0 [(0, .ref (70)), (1, .int (nI j)), (2, .int (nI a))] [] n C (fun r => r = (gj_iv (-2), n, C)))) ∨
    (¬ T.2.2.2.2.1 a = 0 ∧ ∃ P : Int32, (P = -1 ∨ ∃ Q : Nat, Q ≤ 2000000 ∧ P = nI Q) ∧ (∀ (C : Nat → va_E) (n d : Nat), lw_cls C x q ln li mk cs f T sh fr up dn sz bk cf cu cd → lw_shm C n sh zo gr vo se pr le → gj_G md_RB_priceNow (d + 3) 0 0 0 0 0 [(0, .ref (1)), (1, .ref (y)), (2, .int (nI a))] [] n C (fun r => r = (gj_iv P, n, C))) ∧ (∀ (C : Nat → va_E) (n d : Nat) (tc : Int32), lw_mod C tc ln li mk cs f sz cf cu cd lr go zo gr vo se pr le fm mu md → gj_G md_Mo_priceOf (d + 2) 0 0 0 0 0 [(0, .ref (70)), (1, .int (nI j)), (2, .int (nI a))] [] n C (fun r => r = (gj_iv P, n, C)))) := by
  obtain ⟨⟨b1, b2, b3, b4, b5⟩, ⟨T0, t1, t2, t3⟩, r1, r2, r3, r4, r5, r6, r7⟩ := h4
  obtain ⟨⟨Z, z1, z2⟩, ⟨G, q1, q2, q3⟩, ⟨V, w1, w2⟩, -, -⟩ := r3 j hj
  obtain ⟨⟨f1, f2⟩, ⟨f3, f4⟩, f5, f6, f7⟩ := rt_fd t1 li t3 a ha
  rw [← t2] at f1 f3 f5 f6
  obtain ⟨c1, c2, c3⟩ := r4 a ha
  have hsp : T.2.2.2.2.2.2.2.2 ≤ 60 := by rw [t2]; exact Nat.le_trans (rt_sp t1 li) b2
  have hdm : ∀ p, p < sz a → ¬ md (4 * a + p) = 0 := fun p hp => by
    obtain ⟨u, d, d1, d2, d3, d4, d5⟩ := c3 p hp
    rw [← (c2 p (by omega)).2.2, d5]
    exact nI_ne0 (by omega) (by omega)
  have hdc : ∀ p, p < sz a → ¬ dn a p = 0 := fun p hp => by
    obtain ⟨u, d, d1, d2, d3, d4, d5⟩ := c3 p hp
    rw [d5]
    exact nI_ne0 (by omega) (by omega)
  have hw := pw_eq (lr := lr) (o := pl_fd lr 68 (nI a) li 0) (dv := T.2.2.2.2.1 a) (G := G) (V := V) f1 f2 q2 w1
  rcases hw with ⟨w3, w4⟩ | ⟨w3, w4, w5⟩
  · left
    refine ⟨w3, fun C n d g1 g3 => ?_, fun C n d tc g2 => ?_⟩
    · obtain ⟨hxq, o1, ⟨pp, o2⟩, o3, ⟨g4, o4⟩, oM, ⟨Tq, lq, oQ⟩, o23, ⟨co, o24, hco⟩, o65, oR, oC⟩ := g1
      obtain ⟨-, -, hY⟩ := g3 j y hy
      have hR := oR a ha
      exact c_RB_priceNow_x o1 oM.1 oM.2.1 oM.2.2.2.1 oM.2.2.2.2.1 oM.2.2.2.2.2.1 oM.2.2.2.2.2.2.1 oM.2.2.2.2.2.2.2.1 oM.2.2.2.2.2.2.2.2 hY o24 o65 hR.1 hR.2.1 hR.2.2.1 hR.2.2.2 ha hsp w3 (Nat.le_refl 1) (Nat.le_refl 6)
    · obtain ⟨⟨nl, ap, m70⟩, m71, m72, ⟨u73, m73⟩, m74, m75, m76, m77, m78, m79, m80, ⟨cn, m81, hcn⟩, m82, m83, m84, m85, m86, m87, ⟨u88, m88⟩, ⟨u89, m89⟩, ⟨u90, m90⟩⟩ := g2
      exact c_Mo_priceOf2 m70 m72 m74 m75 m76 m77 m78 m81 m82 m83 m84 b2 b3 (by omega) ha (hcn a ha) c1 (by rw [q3, w2]; exact w4)
  · right
    refine ⟨w3, ?_⟩
    rcases rt_pc (lr := lr) t1 (w := pr_w (T.2.2.2.2.1 a) (nI G) (nI V)) ha (show Z < 10 by omega) li b2 t3 with ⟨p1, p2⟩ | ⟨i, p1, p2, p3⟩
    · rw [← t2] at p1
      refine ⟨-1, Or.inl rfl, fun C n d g1 g3 => ?_, fun C n d tc g2 => ?_⟩
      · obtain ⟨hxq, o1, ⟨pp, o2⟩, o3, ⟨g4, o4⟩, oM, ⟨Tq, lq, oQ⟩, o23, ⟨co, o24, hco⟩, o65, oR, oC⟩ := g1
        obtain ⟨-, -, hY⟩ := g3 j y hy
        have hR := oR a ha
        exact c_RB_priceNow_no o1 oM.1 oM.2.1 oM.2.2.2.1 oM.2.2.2.2.1 oM.2.2.2.2.2.1 oM.2.2.2.2.2.2.1 oM.2.2.2.2.2.2.2.1 oM.2.2.2.2.2.2.2.2 hY o24 o65 hR.1 hR.2.1 hR.2.2.1 hR.2.2.2 ha hsp w3 (by rw [z2, q3, w2]; exact p1)
      · obtain ⟨⟨nl, ap, m70⟩, m71, m72, ⟨u73, m73⟩, m74, m75, m76, m77, m78, m79, m80, ⟨cn, m81, hcn⟩, m82, m83, m84, m85, m86, m87, ⟨u88, m88⟩, ⟨u89, m89⟩, ⟨u90, m90⟩⟩ := g2
        exact c_Mo_priceOf1 m70 m72 m74 m75 m76 m77 m78 m81 m82 m83 m84 b2 b3 (by omega) ha (hcn a ha) c1 (by rw [q3, w2]; exact w4) (c1 := -1) (by rw [z2, q3, w2, ← w5]; exact p2) (by decide)
    · obtain ⟨sc, sb, sE, s1, s2, s3, s4, s5, s6⟩ := rt_st t1 li t3 i p1
      rw [← t2] at p1 p2 s4 s5 s6
      rw [← t2, s6] at p3
      obtain ⟨x1, x2, P, x3, x4, x5⟩ := pp_eq (lr := lr) (o := pl_fd lr 70 (nI a) li 0) (o2 := pl_fd lr 77 (nI a) li 0) (c := sE) s3 f5 f6 f7 f3 f4
      have ebk : bk a = pl_bk go se (nI a) mk 0 0 := r6 a ha
      have ela : pf_la (fr a) (bk a) (sz a) 0 none = pf_la (fun i => fm (4 * a + i)) (pl_bk go se (nI a) mk 0 0) (sz a) 0 none := by
        rw [ebk]
        exact pf_la_c _ _ _ (fun k hk => (c2 k (by omega)).1) (fun j hj => nomatch hj)
      have hlt : ∀ p, pf_la (fr a) (bk a) (sz a) 0 none = some p → p < sz a := fun p hp => by
        have := pf_la_lt (fr a) (bk a) (sz a) 0 none (fun j hj => nomatch hj) p hp
        omega
      obtain ⟨Q, y1, y2⟩ := px_nat (P := P) (up := up a) (dn := dn a) (o := pf_la (fr a) (bk a) (sz a) 0 none) x3 (fun p hp => c3 p (hlt p hp))
      have y3 := px_eq (P := P) (a := a) (up := up a) (dn := dn a) (mu := mu) (md := md) (o := pf_la (fr a) (bk a) (sz a) 0 none) (fun p hp => by have := hlt p hp; exact (c2 p (by omega)).2)
      refine ⟨nI Q, Or.inr ⟨Q, y1, rfl⟩, fun C n d g1 g3 => ?_, fun C n d tc g2 => ?_⟩
      · obtain ⟨hxq, o1, ⟨pp, o2⟩, o3, ⟨g4, o4⟩, oM, ⟨Tq, lq, oQ⟩, o23, ⟨co, o24, hco⟩, o65, oR, oC⟩ := g1
        obtain ⟨-, -, hY⟩ := g3 j y hy
        have hR := oR a ha
        refine gj_conseq (c_RB_priceNow o1 oM.1 oM.2.1 oM.2.2.2.1 oM.2.2.2.2.1 oM.2.2.2.2.2.1 oM.2.2.2.2.2.2.1 oM.2.2.2.2.2.2.2.1 oM.2.2.2.2.2.2.2.2 hY o24 o65 hR.1 hR.2.1 hR.2.2.1 hR.2.2.2 ha hsp w3 (i := i) (by omega) (by rw [z2, q3, w2]; exact p2) x1 (hco a ha) c1 hdc) (fun r h => ?_)
        rw [h, s6, x5, y2]
      · obtain ⟨⟨nl, ap, m70⟩, m71, m72, ⟨u73, m73⟩, m74, m75, m76, m77, m78, m79, m80, ⟨cn, m81, hcn⟩, m82, m83, m84, m85, m86, m87, ⟨u88, m88⟩, ⟨u89, m89⟩, ⟨u90, m90⟩⟩ := g2
        refine gj_conseq (c_Mo_priceOf m70 m72 m74 m75 m76 m77 m78 m81 m82 m83 m84 b2 b3 (by omega) ha (hcn a ha) c1 hdm (by rw [q3, w2]; exact w4) (c1 := nI sE) (by rw [z2, q3, w2, ← w5]; exact p3) (nI_pos' (by omega)) x2) (fun r h => ?_)
        rw [h, x4, ← ela, ← y3, y2]
