/-! the pure side: what the tables of good lines say -/
theorem rt_s {lr : Nat → Int32} {k : Nat} {T : pr_T} : rt_F lr (k + 1) T = pr_nx (lr (5 * k)) (lr (5 * k + 1)).toNatClampNeg (lr (5 * k + 2)) (lr (5 * k + 3)) (lr (5 * k + 4)) (rt_F lr k T) := rfl
theorem rt_ok_p {lr : Nat → Int32} {k : Nat} {T : pr_T} (h : rt_ok lr (k + 1) T) : rt_ok lr k T := fun j hj => h j (by omega)
theorem rt_sp {lr : Nat → Int32} {T0 : pr_T} (h0 : rt_0 T0) : ∀ li, (rt_F lr li T0).2.2.2.2.2.2.2.2 ≤ li := by
  intro li
  induction li with
  | zero => exact Nat.le_of_eq h0.1
  | succ li ih => rw [rt_s]; exact Nat.le_trans (pr_nx_sp _ _ _ _ _ _) (by omega)
theorem rt_hv {lr : Nat → Int32} {T0 : pr_T} (h0 : rt_0 T0) : ∀ li, rt_ok lr li T0 → ∀ a b, a < 10 → b < 10 → pr_hv (rt_F lr li T0).1 (rt_F lr li T0).2.2.1 (nI a * 10 + nI b) (rt_F lr li T0).2.2.2.2.2.2.2.2 0 0 = pl_hv lr (nI a) (nI b) li 0 0 ∧ 0 ≤ pl_hv lr (nI a) (nI b) li 0 0 := by
  intro li
  induction li with
  | zero =>
    intro _ a b _ _
    show pr_hv T0.1 T0.2.2.1 _ T0.2.2.2.2.2.2.2.2 0 0 = 0 ∧ (0 : Int32) ≤ 0
    rw [h0.1]
    exact ⟨rfl, by decide⟩
  | succ li ih =>
    intro ok a b ha hb
    have hl := ok li (by omega)
    have e := ih (rt_ok_p ok) a b ha hb
    rw [rt_s]
    generalize rt_F lr li T0 = T at hl e
    rw [pl_hv_s, Nat.zero_add]
    rcases hl with ⟨hL, a1, b1, c1, e1, g1, g2, g3, g4, q1, q2, q3, q4, q5⟩ | ⟨hL, a1, v1, g1, g2, q1, q2, q3⟩ | ⟨hL, a1, v1, g1, g2, q1, q2, q3⟩ | ⟨hL, a1, v1, w1, g1, g2, g3, g4, q1, q2, q3, q4, q5⟩
    · rw [hL, q1, q2, q3, q4, pr_nx_82, nI_clamp (by omega)]
      dsimp only
      rw [pr_hv_s, Nat.zero_add, upd_self, upd_self]
      rw [pr_hv_c (la2 := T.1) (ut2 := T.2.2.1) _ _ _ (fun k _ y => ⟨upd_ne _ _ (by omega), upd_ne _ _ (by omega)⟩)]
      by_cases c : a1 = a ∧ b1 = b
      · rw [if_pos ((nI_lane_eq g1 g2 ha hb).mpr c), if_pos ⟨rfl, by rw [c.1], by rw [c.2]⟩]
        exact ⟨rfl, nI_pos' (by omega)⟩
      · rw [if_neg (fun h => c ((nI_lane_eq g1 g2 ha hb).mp h)), if_neg (fun h => c ⟨(nI_eq (by omega) (by omega)).mp h.2.1, (nI_eq (by omega) (by omega)).mp h.2.2⟩)]
        exact e
    · rw [hL, pr_nx_68, if_neg (fun h => absurd h.1 (by decide))]; exact e
    · rw [hL, pr_nx_77, if_neg (fun h => absurd h.1 (by decide))]; exact e
    · rw [hL, pr_nx_70, if_neg (fun h => absurd h.1 (by decide))]; exact e
/-- a value by a line found -/
def rt_v (lr : Nat → Int32) (o : Nat) : Option Nat → Int32
  | none => -1
  | some k => lr (5 * k + o)
theorem rt_fd {lr : Nat → Int32} {T0 : pr_T} (h0 : rt_0 T0) : ∀ li, rt_ok lr li T0 → ∀ a, a < 10 →
    ((rt_F lr li T0).2.2.2.2.1 a = rt_v lr 2 (pl_fd lr 68 (nI a) li 0) ∧ (∀ k, pl_fd lr 68 (nI a) li 0 = some k → ∃ v : Nat, v ≤ 100000 ∧ lr (5 * k + 2) = nI v)) ∧
    ((rt_F lr li T0).2.2.2.2.2.1 a = rt_v lr 2 (pl_fd lr 77 (nI a) li 0) ∧ (∀ k, pl_fd lr 77 (nI a) li 0 = some k → ∃ v : Nat, v ≤ 1000000 ∧ lr (5 * k + 2) = nI v)) ∧
    ((rt_F lr li T0).2.2.2.2.2.2.1 a = rt_v lr 2 (pl_fd lr 70 (nI a) li 0) ∧ (rt_F lr li T0).2.2.2.2.2.2.2.1 a = rt_v lr 3 (pl_fd lr 70 (nI a) li 0) ∧ (∀ k, pl_fd lr 70 (nI a) li 0 = some k → ∃ v w : Nat, v ≤ w ∧ 1 ≤ w ∧ w ≤ 1000 ∧ lr (5 * k + 2) = nI v ∧ lr (5 * k + 3) = nI w)) := by
  intro li
  induction li with
  | zero =>
    intro _ a ha
    obtain ⟨d1, d2, d3, d4⟩ := h0.2 a ha
    exact ⟨⟨d1, fun k h => nomatch h⟩, ⟨d2, fun k h => nomatch h⟩, d3, d4, fun k h => nomatch h⟩
  | succ li ih =>
    intro ok a ha
    have hl := ok li (by omega)
    have e := ih (rt_ok_p ok) a ha
    rw [rt_s]
    generalize rt_F lr li T0 = T at hl e
    obtain ⟨⟨u1, u2⟩, ⟨u3, u4⟩, u5, u6, u7⟩ := e
    -- a letter other than this line's
    have other : ∀ L : Int32, ¬ lr (5 * li) = L → pl_fd lr L (nI a) (li + 1) 0 = pl_fd lr L (nI a) li 0 := by
      intro L hn
      cases q : pl_fd lr L (nI a) li 0 with
      | some j => exact pl_fd_some _ _ q
      | none => rw [pl_fd_none _ _ q, Nat.zero_add, if_neg (fun h => hn h.1)]
    -- another carrier than this line's
    have other2 : ∀ L : Int32, ¬ lr (5 * li + 1) = nI a → pl_fd lr L (nI a) (li + 1) 0 = pl_fd lr L (nI a) li 0 := by
      intro L hn
      cases q : pl_fd lr L (nI a) li 0 with
      | some j => exact pl_fd_some _ _ q
      | none => rw [pl_fd_none _ _ q, Nat.zero_add, if_neg (fun h => hn h.2)]
    have m1 : ∀ n : Nat, n ≤ 1000000 → ¬ nI n = -1 := fun n hn => nI_m1 (by omega)
    rcases hl with ⟨hL, a1, b1, c1, e1, g1, g2, g3, g4, q1, q2, q3, q4, q5⟩ | ⟨hL, a1, v1, g1, g2, q1, q2, q3⟩ | ⟨hL, a1, v1, g1, g2, q1, q2, q3⟩ | ⟨hL, a1, v1, w1, g1, g2, g3, g4, q1, q2, q3, q4, q5⟩
    · rw [other 68 (by rw [hL]; decide), other 77 (by rw [hL]; decide), other 70 (by rw [hL]; decide), hL, pr_nx_82]
      exact ⟨⟨u1, u2⟩, ⟨u3, u4⟩, u5, u6, u7⟩
    · rw [other 77 (by rw [hL]; decide), other 70 (by rw [hL]; decide), hL, q1, q2, pr_nx_68, nI_clamp (by omega)]
      refine ⟨?_, ⟨u3, u4⟩, u5, u6, u7⟩
      dsimp only
      by_cases c : a1 = a
      · subst c
        have qn : pl_fd lr 68 (nI a1) li 0 = none := by
          cases q : pl_fd lr 68 (nI a1) li 0 with
          | none => rfl
          | some j =>
            obtain ⟨v, hv, ev⟩ := u2 j q
            rw [q, q3] at u1
            exact absurd (u1.trans ev).symm (m1 v (by omega))
        rw [pl_fd_none _ _ qn, Nat.zero_add, if_pos ⟨hL, q1⟩, upd_self]
        exact ⟨q2.symm, fun k h => by cases h; exact ⟨v1, g2, q2⟩⟩
      · rw [other2 68 (by rw [q1]; exact fun h => c ((nI_eq (by omega) (by omega)).mp h)), upd_ne _ _ (fun h => c h.symm)]
        exact ⟨u1, u2⟩
    · rw [other 68 (by rw [hL]; decide), other 70 (by rw [hL]; decide), hL, q1, q2, pr_nx_77, nI_clamp (by omega)]
      refine ⟨⟨u1, u2⟩, ?_, u5, u6, u7⟩
      dsimp only
      by_cases c : a1 = a
      · subst c
        have qn : pl_fd lr 77 (nI a1) li 0 = none := by
          cases q : pl_fd lr 77 (nI a1) li 0 with
          | none => rfl
          | some j =>
            obtain ⟨v, hv, ev⟩ := u4 j q
            rw [q, q3] at u3
            exact absurd (u3.trans ev).symm (m1 v (by omega))
        rw [pl_fd_none _ _ qn, Nat.zero_add, if_pos ⟨hL, q1⟩, upd_self]
        exact ⟨q2.symm, fun k h => by cases h; exact ⟨v1, g2, q2⟩⟩
      · rw [other2 77 (by rw [q1]; exact fun h => c ((nI_eq (by omega) (by omega)).mp h)), upd_ne _ _ (fun h => c h.symm)]
        exact ⟨u3, u4⟩
    · rw [other 68 (by rw [hL]; decide), other 77 (by rw [hL]; decide), hL, q1, q2, q3, pr_nx_70, nI_clamp (by omega)]
      refine ⟨⟨u1, u2⟩, ⟨u3, u4⟩, ?_⟩
      dsimp only
      by_cases c : a1 = a
      · subst c
        have qn : pl_fd lr 70 (nI a1) li 0 = none := by
          cases q : pl_fd lr 70 (nI a1) li 0 with
          | none => rfl
          | some j =>
            obtain ⟨v, w, hv, hw1, hw2, ev, ew⟩ := u7 j q
            rw [q, q5] at u6
            exact absurd (u6.trans ew).symm (m1 w (by omega))
        rw [pl_fd_none _ _ qn, Nat.zero_add, if_pos ⟨hL, q1⟩, upd_self, upd_self]
        exact ⟨q2.symm, q3.symm, fun k h => by cases h; exact ⟨v1, w1, g2, g3, g4, q2, q3⟩⟩
      · rw [other2 70 (by rw [q1]; exact fun h => c ((nI_eq (by omega) (by omega)).mp h)), upd_ne _ _ (fun h => c h.symm), upd_ne _ _ (fun h => c h.symm)]
        exact ⟨u5, u6, u7⟩
/-- every step of the tables -/
theorem rt_st {lr : Nat → Int32} {T0 : pr_T} (h0 : rt_0 T0) : ∀ li, rt_ok lr li T0 → ∀ i, i < (rt_F lr li T0).2.2.2.2.2.2.2.2 →
    ∃ c b e : Nat, b < c ∧ c ≤ 100000 ∧ e ≤ 1000000 ∧ (rt_F lr li T0).2.1 i = nI b ∧ (rt_F lr li T0).2.2.1 i = nI c ∧ (rt_F lr li T0).2.2.2.1 i = nI e := by
  intro li
  induction li with
  | zero => intro _ i hi; exact absurd hi (by show ¬ i < T0.2.2.2.2.2.2.2.2; rw [h0.1]; omega)
  | succ li ih =>
    intro ok i hi
    have hl := ok li (by omega)
    have e := ih (rt_ok_p ok)
    have hh := fun a b => rt_hv h0 li (rt_ok_p ok) a b
    rw [rt_s] at hi ⊢
    generalize rt_F lr li T0 = T at hl e hi hh ⊢
    rcases hl with ⟨hL, a1, b1, c1, e1, g1, g2, g3, g4, q1, q2, q3, q4, q5⟩ | ⟨hL, a1, v1, g1, g2, q1, q2, q3⟩ | ⟨hL, a1, v1, g1, g2, q1, q2, q3⟩ | ⟨hL, a1, v1, w1, g1, g2, g3, g4, q1, q2, q3, q4, q5⟩
    · rw [hL, q1, q2, q3, q4, pr_nx_82, nI_clamp (by omega)] at hi ⊢
      dsimp only at hi ⊢
      by_cases c : i = T.2.2.2.2.2.2.2.2
      · rw [c, upd_self, upd_self, upd_self]
        obtain ⟨k1, k2⟩ := hh a1 b1 g1 g2
        rw [← k1] at k2
        obtain ⟨u, hu, eu⟩ := nI_of (Int32.not_lt.mpr k2)
        rw [eu] at q5 ⊢
        exact ⟨c1, u, e1, (nI_ltI hu (by omega)).mp q5, g3, g4, rfl, rfl, rfl⟩
      · rw [upd_ne _ _ c, upd_ne _ _ c, upd_ne _ _ c]
        exact e i (by omega)
    · rw [hL, pr_nx_68] at hi ⊢; exact e i hi
    · rw [hL, pr_nx_77] at hi ⊢; exact e i hi
    · rw [hL, pr_nx_70] at hi ⊢; exact e i hi
theorem pr_st_s (la ut : Nat → Int32) (l w : Int32) : ∀ m i, i + m < 2 ^ 31 → pr_st la ut l w (m + 1) i = if pr_st la ut l w m i = -1 then (if la (i + m) = l ∧ w ≤ ut (i + m) then nI (i + m) else -1) else pr_st la ut l w m i := by
  intro m
  induction m with
  | zero => intro i _; rw [pr_st, pr_st, if_pos rfl]; rfl
  | succ m ih =>
    intro i hb
    rw [pr_st]
    by_cases c : la i = l ∧ w ≤ ut i
    · rw [if_pos c, pr_st, if_pos c, if_neg (nI_m1 (by omega))]
    · rw [if_neg c, ih _ (by omega), pr_st, if_neg c, show i + 1 + m = i + (m + 1) by omega]
theorem pr_st_c {la ut la2 ut2 : Nat → Int32} {l w : Int32} : ∀ m i, (∀ k, i ≤ k → k < i + m → la k = la2 k ∧ ut k = ut2 k) → pr_st la ut l w m i = pr_st la2 ut2 l w m i := by
  intro m
  induction m with
  | zero => intro i _; rfl
  | succ m ih =>
    intro i h
    obtain ⟨e1, e2⟩ := h i (by omega) (by omega)
    rw [pr_st, pr_st, e1, e2, ih _ (fun k a b => h k (by omega) (by omega))]
theorem pl_pc_s (f : Nat → Int32) (a z w : Int32) : ∀ m k c, pl_pc f a z w (m + 1) k c = if 0 ≤ pl_pc f a z w m k c then pl_pc f a z w m k c else if f (5 * (k + m)) = 82 ∧ f (5 * (k + m) + 1) = a ∧ f (5 * (k + m) + 2) = z ∧ w ≤ f (5 * (k + m) + 3) then f (5 * (k + m) + 4) else pl_pc f a z w m k c := by
  intro m
  induction m with
  | zero => intro k c; rw [pl_pc, pl_pc, pl_pc]; rfl
  | succ m ih =>
    intro k c
    by_cases q : 0 ≤ c
    · rw [pl_pc, if_pos q, pl_pc, if_pos q, if_pos q]
    · have e : ∀ m, pl_pc f a z w (m + 1) k c = pl_pc f a z w m (k + 1) (if f (5 * k) = 82 ∧ f (5 * k + 1) = a ∧ f (5 * k + 2) = z ∧ w ≤ f (5 * k + 3) then f (5 * k + 4) else c) := fun m => by rw [pl_pc, if_neg q]
      rw [e, e, ih, show k + 1 + m = k + (m + 1) by omega]
/-- the step of a price, and its cents -/
theorem rt_pc {lr : Nat → Int32} {T0 : pr_T} (h0 : rt_0 T0) {a z : Nat} {w : Int32} (ha : a < 10) (hz : z < 10) : ∀ li, li ≤ 60 → rt_ok lr li T0 →
    (pr_st (rt_F lr li T0).1 (rt_F lr li T0).2.2.1 (nI a * 10 + nI z) w (rt_F lr li T0).2.2.2.2.2.2.2.2 0 = -1 ∧ pl_pc lr (nI a) (nI z) w li 0 (-1) = -1) ∨
    (∃ i, i < (rt_F lr li T0).2.2.2.2.2.2.2.2 ∧ pr_st (rt_F lr li T0).1 (rt_F lr li T0).2.2.1 (nI a * 10 + nI z) w (rt_F lr li T0).2.2.2.2.2.2.2.2 0 = nI i ∧ pl_pc lr (nI a) (nI z) w li 0 (-1) = (rt_F lr li T0).2.2.2.1 i) := by
  intro li
  induction li with
  | zero =>
    intro _ _
    left
    show pr_st T0.1 T0.2.2.1 _ w T0.2.2.2.2.2.2.2.2 0 = -1 ∧ _
    rw [h0.1]
    exact ⟨rfl, rfl⟩
  | succ li ih =>
    intro hli ok
    have hl := ok li (by omega)
    have e := ih (by omega) (rt_ok_p ok)
    have hst := rt_st h0 li (rt_ok_p ok)
    have hsp := rt_sp (lr := lr) h0 li
    rw [rt_s]
    generalize rt_F lr li T0 = T at hl e hst hsp ⊢
    rw [pl_pc_s, Nat.zero_add]
    rcases hl with ⟨hL, a1, b1, c1, e1, g1, g2, g3, g4, q1, q2, q3, q4, q5⟩ | ⟨hL, a1, v1, g1, g2, q1, q2, q3⟩ | ⟨hL, a1, v1, g1, g2, q1, q2, q3⟩ | ⟨hL, a1, v1, w1, g1, g2, g3, g4, q1, q2, q3, q4, q5⟩
    · rw [hL, q1, q2, q3, q4, pr_nx_82, nI_clamp (by omega)]
      dsimp only
      rw [pr_st_s _ _ _ _ _ _ (by omega), Nat.zero_add, upd_self, upd_self]
      rw [pr_st_c (la2 := T.1) (ut2 := T.2.2.1) _ _ (fun k _ y => ⟨upd_ne _ _ (by omega), upd_ne _ _ (by omega)⟩)]
      rcases e with ⟨x1, x2⟩ | ⟨i, hi, x1, x2⟩
      · rw [x1, x2, if_pos rfl, if_neg (show ¬ (0 : Int32) ≤ -1 by decide)]
        by_cases c : (a1 = a ∧ b1 = z) ∧ w ≤ nI c1
        · right
          refine ⟨_, Nat.lt_succ_self _, ?_, ?_⟩
          · rw [if_pos ⟨(nI_lane_eq g1 g2 ha hz).mpr c.1, c.2⟩]
          · rw [if_pos ⟨rfl, by rw [c.1.1], by rw [c.1.2], c.2⟩, upd_self]
        · left
          constructor
          · rw [if_neg (fun h => c ⟨(nI_lane_eq g1 g2 ha hz).mp h.1, h.2⟩)]
          · rw [if_neg (fun h => c ⟨⟨(nI_eq (by omega) (by omega)).mp h.2.1, (nI_eq (by omega) (by omega)).mp h.2.2.1⟩, h.2.2.2⟩)]
      · obtain ⟨c2, b2, e2, y1, y2, y3, y4, y5, y6⟩ := hst i hi
        right
        refine ⟨i, by omega, ?_, ?_⟩
        · rw [x1, if_neg (nI_m1 (by omega))]
        · rw [x2, if_pos (by rw [y6]; exact nI_pos' (by omega)), upd_ne _ _ (by omega)]
    · rw [hL, pr_nx_68, if_neg (show ¬ ((68 : Int32) = 82 ∧ lr (5 * li + 1) = nI a ∧ lr (5 * li + 2) = nI z ∧ w ≤ lr (5 * li + 3)) from fun h => absurd h.1 (by decide)), ite_self]; exact e
    · rw [hL, pr_nx_77, if_neg (show ¬ ((77 : Int32) = 82 ∧ lr (5 * li + 1) = nI a ∧ lr (5 * li + 2) = nI z ∧ w ≤ lr (5 * li + 3)) from fun h => absurd h.1 (by decide)), ite_self]; exact e
    · rw [hL, pr_nx_70, if_neg (show ¬ ((70 : Int32) = 82 ∧ lr (5 * li + 1) = nI a ∧ lr (5 * li + 2) = nI z ∧ w ≤ lr (5 * li + 3)) from fun h => absurd h.1 (by decide)), ite_self]; exact e
