/-! the pure side: the whole reading -/
theorem rd_acc {f : Nat → Int32} {ln q nl : Nat} {g nr : Nat → Int32} {T0 : pr_T} (h6 : ln ≤ 600) (hq : q ≤ 600) (hnl : nl < 60) (h0 : rt_0 T0) (ok : rt_ok nr nl T0) :
    ((¬ pt_blv f ln q g = -1 ∧ pr_ok (pt_at f ln q) (pt_blg f ln q g 0).toNatClampNeg (pt_blg f ln q g 1) (pt_blg f ln q g 2) (pt_blg f ln q g 3) (rt_F nr nl T0)) ↔ pm_acc f ln nl q nr) ∧
    (pm_acc f ln nl q nr → (pt_blv f ln q g).toNatClampNeg = pm_nxp f ln nl q nr ∧ rt_ok (pm_nx f ln nl q nr) (nl + 1) T0 ∧ pr_nx (pt_at f ln q) (pt_blg f ln q g 0).toNatClampNeg (pt_blg f ln q g 1) (pt_blg f ln q g 2) (pt_blg f ln q g 3) (rt_F nr nl T0) = rt_F (pm_nx f ln nl q nr) (nl + 1) T0) := by
  have hl := rd_line (g := g) (nr := nr) (nl := nl) (f := f) h6 hq
  have key : ¬ pt_nbN (pt_at f ln q) = 0 → (pm_run f ln (pt_nbN (pt_at f ln q)) (5 * nl + 1) (q + 1) nr).1 = true → pt_at f ln (pm_run f ln (pt_nbN (pt_at f ln q)) (5 * nl + 1) (q + 1) nr).2.1 = 10 →
      (pr_ok (pt_at f ln q) (pt_blg f ln q g 0).toNatClampNeg (pt_blg f ln q g 1) (pt_blg f ln q g 2) (pt_blg f ln q g 3) (rt_F nr nl T0) ↔ pm_ok (pm_run f ln (pt_nbN (pt_at f ln q)) (5 * nl + 1) (q + 1) nr).2.2 nl (pt_at f ln q)) ∧
      (pm_ok (pm_run f ln (pt_nbN (pt_at f ln q)) (5 * nl + 1) (q + 1) nr).2.2 nl (pt_at f ln q) → (pt_blv f ln q g).toNatClampNeg = pm_nxp f ln nl q nr ∧ rt_ok (pm_nx f ln nl q nr) (nl + 1) T0 ∧ pr_nx (pt_at f ln q) (pt_blg f ln q g 0).toNatClampNeg (pt_blg f ln q g 1) (pt_blg f ln q g 2) (pt_blg f ln q g 3) (rt_F nr nl T0) = rt_F (pm_nx f ln nl q nr) (nl + 1) T0) := by
    intro k0 k1 k2
    obtain ⟨e1, e2, e3⟩ := rd_line2 (g := g) h6 hq k0 k1 k2
    have e4 : ∀ k, k < pt_nbN (pt_at f ln q) → pt_blg f ln q g k = nI (pt_blg f ln q g k).toNatClampNeg ∧ (pt_blg f ln q g k).toNatClampNeg < 2 ^ 31 := by
      intro k hk
      obtain ⟨-, u, hu, eu⟩ := e2 k hk
      rw [eu, nI_clamp hu]; exact ⟨rfl, hu⟩
    have r := rd_rule (L := pt_at f ln q) (nl := nl) (R := (pm_run f ln (pt_nbN (pt_at f ln q)) (5 * nl + 1) (q + 1) nr).2.2) (nr := nr) (T0 := T0) (u := fun k => (pt_blg f ln q g k).toNatClampNeg) (b := pt_blg f ln q g 1) (c := pt_blg f ln q g 2) (e := pt_blg f ln q g 3) k0 h0 ok (fun k hk => (e4 k hk).2) (fun k hk => ((e2 k hk).1).trans (e4 k hk).1) (fun h => (e4 1 h).1) (fun h => (e4 2 h).1) (fun h => (e4 3 h).1) e3
    refine ⟨r.1, fun hp => ?_⟩
    obtain ⟨s1, s2⟩ := r.2 hp
    have eO : ∀ j, j < 5 * nl → nr j = pm_nx f ln nl q nr j := by
      intro j hj
      unfold pm_nx
      rw [upd_ne _ _ (by omega), e3 j (by omega)]
    have eF : rt_F (pm_nx f ln nl q nr) nl T0 = rt_F nr nl T0 := (rt_F_c nl eO).symm
    refine ⟨e1, ?_, ?_⟩
    · intro k hk
      by_cases c : k = nl
      · subst c; rw [eF]; exact s1
      · exact rt_ok_c eO ok k (by omega)
    · rw [rt_s, eF]; exact s2
  unfold pm_acc
  constructor
  · constructor
    · intro h
      have a := hl.mp h.1
      exact ⟨hnl, a.1, a.2.1, a.2.2, (key a.1 a.2.1 a.2.2).1.mp h.2⟩
    · intro h
      obtain ⟨-, a1, a2, a3, a4⟩ := h
      exact ⟨hl.mpr ⟨a1, a2, a3⟩, (key a1 a2 a3).1.mpr a4⟩
  · intro h
    obtain ⟨-, a1, a2, a3, a4⟩ := h
    exact (key a1 a2 a3).2 a4
theorem rd_all {f : Nat → Int32} {ln : Nat} {T0 : pr_T} (h6 : ln ≤ 600) (h0 : rt_0 T0) : ∀ (m nl pl : Nat) (g nr : Nat → Int32), nl + m = 60 → pl ≤ 600 → rt_ok nr nl T0 →
    (∃ g2 l3 p3, pt_rd f ln m nl pl g (rt_F nr nl T0) = (some (rt_F g2 l3 T0, l3), p3) ∧ pm_rd f ln m nl pl nr = (some (g2, l3), p3) ∧ l3 ≤ 60 ∧ rt_ok g2 l3 T0) ∨
    (∃ p3, pt_rd f ln m nl pl g (rt_F nr nl T0) = (none, p3) ∧ pm_rd f ln m nl pl nr = (none, p3) ∧ p3 ≤ 600) := by
  intro m
  induction m with
  | zero =>
    intro nl pl g nr hm hp ok
    rw [pt_rd, pm_rd]
    by_cases c : pl < ln
    · rw [if_pos c, if_pos c]; exact Or.inr ⟨pl, rfl, rfl, hp⟩
    · rw [if_neg c, if_neg c]; exact Or.inl ⟨nr, nl, pl, rfl, rfl, by omega, ok⟩
  | succ m ih =>
    intro nl pl g nr hm hp ok
    rw [pt_rd, pm_rd]
    by_cases c : pl < ln
    · rw [if_pos c, if_pos c]
      obtain ⟨k1, k2⟩ := rd_acc (f := f) (q := pl) (g := g) h6 hp (show nl < 60 by omega) h0 ok
      by_cases a : pm_acc f ln nl pl nr
      · rw [if_pos (k1.mpr a), if_pos a]
        obtain ⟨j1, j2, j3⟩ := k2 a
        rw [j1, j3]
        have := pm_nxp_le a
        exact ih (nl + 1) _ _ _ (by omega) (by omega) j2
      · rw [if_neg (fun h => a (k1.mp h)), if_neg a]
        exact Or.inr ⟨pl, rfl, rfl, hp⟩
    · rw [if_neg c, if_neg c]; exact Or.inl ⟨nr, nl, pl, rfl, rfl, by omega, ok⟩
