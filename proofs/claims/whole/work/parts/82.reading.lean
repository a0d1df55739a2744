/-! the pure side: both read a text alike -/
theorem pt_nd_min (f : Nat → Int32) (ln : Nat) : ∀ (m e q : Nat), pt_nd f ln q m = min (pt_nd f ln q (m + e)) m := by
  intro m
  induction m with
  | zero => intro e q; rw [Nat.min_zero]; rfl
  | succ m ih =>
    intro e q
    by_cases h : 48 ≤ pt_at f ln q ∧ pt_at f ln q ≤ 57
    · rw [show m + 1 + e = (m + e) + 1 by omega, pt_nd_s h, pt_nd_s h, ih e (q + 1)]; omega
    · rw [pt_nd_no h, pt_nd_no h]; omega
theorem pt_nd_at (f : Nat → Int32) (ln : Nat) : ∀ (m q j : Nat), j < pt_nd f ln q m → 48 ≤ pt_at f ln (q + j) ∧ pt_at f ln (q + j) ≤ 57 := by
  intro m
  induction m with
  | zero => intro q j h; exact absurd h (Nat.not_lt_zero _)
  | succ m ih =>
    intro q j h
    by_cases c : 48 ≤ pt_at f ln q ∧ pt_at f ln q ≤ 57
    · rw [pt_nd_s c] at h
      cases j with
      | zero => exact c
      | succ j => have := ih (q + 1) j (by omega); rwa [show q + 1 + j = q + (j + 1) by omega] at this
    · rw [pt_nd_no c] at h; exact absurd h (Nat.not_lt_zero _)
theorem rd_n1 {f : Nat → Int32} {ln p : Nat} (h : ¬ pm_num f ln p < 0) : pt_num f ln p = pm_num f ln p ∧ pt_np f ln p = pm_np f ln p := by
  have e := pt_nd_min f ln 9 691 (p + 1)
  unfold pm_num pt_num pm_np pt_np at *
  by_cases c : pt_at f ln p = 32
  · rw [if_pos c] at h ⊢
    rw [if_pos c, if_pos c, if_pos c]
    by_cases d : pt_nd f ln (p + 1) 700 = 0 ∨ 9 < pt_nd f ln (p + 1) 700 ∨ (1 < pt_nd f ln (p + 1) 700 ∧ pt_at f ln (p + 1) = 48)
    · rw [if_pos d] at h; exact absurd (by decide) h
    · have hd : pt_nd f ln (p + 1) 9 = pt_nd f ln (p + 1) 700 := by
        rw [e]; show min (pt_nd f ln (p + 1) 700) 9 = _; omega
      rw [if_neg d, hd, if_neg (fun z => d (by rcases z with z | z; exact Or.inl z; exact Or.inr (Or.inr z)))]
      exact ⟨rfl, rfl⟩
  · rw [if_neg c] at h; exact absurd (by decide) h
theorem rd_n2 {f : Nat → Int32} {ln p : Nat} (h : ¬ pt_num f ln p = -1) : (pm_num f ln p = pt_num f ln p ∧ pm_np f ln p = pt_np f ln p) ∨ (48 ≤ pt_at f ln (pt_np f ln p) ∧ pt_at f ln (pt_np f ln p) ≤ 57) := by
  have e := pt_nd_min f ln 9 691 (p + 1)
  have hat := pt_nd_at f ln 700 (p + 1)
  by_cases c : pt_at f ln p = 32
  · by_cases d : 9 < pt_nd f ln (p + 1) 700
    · right
      unfold pt_np
      rw [if_pos c]
      have h9 : pt_nd f ln (p + 1) 9 = 9 := by
        rw [e]; show min (pt_nd f ln (p + 1) 700) 9 = _; omega
      rw [h9]
      exact hat 9 d
    · left
      have hd : pt_nd f ln (p + 1) 9 = pt_nd f ln (p + 1) 700 := by
        rw [e]; show min (pt_nd f ln (p + 1) 700) 9 = _; omega
      unfold pm_num pt_num pm_np pt_np at *
      rw [if_pos c] at h
      rw [if_pos c, if_pos c, if_pos c, if_pos c]
      rw [hd] at h ⊢
      refine ⟨?_, rfl⟩
      by_cases z : pt_nd f ln (p + 1) 700 = 0 ∨ (1 < pt_nd f ln (p + 1) 700 ∧ pt_at f ln (p + 1) = 48)
      · rw [if_pos z] at h; exact absurd rfl h
      · rw [if_neg z, if_neg (fun y => by rcases y with y | y | y; exact z (Or.inl y); exact d y; exact z (Or.inr y))]
  · exact absurd (pt_num_no c) h
theorem rd_dig {c : Int32} (h : 48 ≤ c ∧ c ≤ 57) : ¬ c = 32 ∧ ¬ c = 10 := by
  constructor
  · intro e; rw [e] at h; exact absurd h.1 (by decide)
  · intro e; rw [e] at h; exact absurd h.1 (by decide)
theorem rd_A (f : Nat → Int32) (ln : Nat) : ∀ (m i i2 p : Nat) (g g2 : Nat → Int32), (pm_run f ln m i2 p g2).1 = true →
    (pt_run f ln m i p g).1 = true ∧ (pt_run f ln m i p g).2.1 = (pm_run f ln m i2 p g2).2.1 ∧ (∀ k, k < m → (pt_run f ln m i p g).2.2 (i + k) = (pm_run f ln m i2 p g2).2.2 (i2 + k)) ∧ (∀ k, k < i2 → (pm_run f ln m i2 p g2).2.2 k = g2 k) := by
  intro m
  induction m with
  | zero => intro i i2 p g g2 _; exact ⟨rfl, rfl, fun k h => absurd h (Nat.not_lt_zero _), fun _ _ => rfl⟩
  | succ m ih =>
    intro i i2 p g g2 h
    rw [pm_run] at h ⊢
    by_cases c : pm_num f ln p < 0
    · rw [if_pos c] at h; exact absurd (show false = true from h) (by decide)
    · rw [if_neg c] at h ⊢
      obtain ⟨e1, e2⟩ := rd_n1 c
      have c2 : ¬ pt_num f ln p = -1 := by rw [e1]; intro e; rw [e] at c; exact c (by decide)
      rw [pt_run, if_neg c2, e1, e2]
      obtain ⟨r1, r2, r3, r4⟩ := ih (i + 1) (i2 + 1) (pm_np f ln p) (upd g i (pm_num f ln p)) (upd g2 i2 (pm_num f ln p)) h
      refine ⟨r1, r2, ?_, ?_⟩
      · intro k hk
        cases k with
        | zero =>
          exact (((pt_run_nat f ln m (i + 1) _ _ r1).1 i (by omega)).trans (upd_self _ _ _)).trans ((r4 i2 (by omega)).trans (upd_self _ _ _)).symm
        | succ k => have := r3 k (by omega); rwa [show i + 1 + k = i + (k + 1) by omega, show i2 + 1 + k = i2 + (k + 1) by omega] at this
      · intro k hk
        rw [r4 k (by omega), upd_ne _ _ (by omega)]
theorem rd_B (f : Nat → Int32) (ln : Nat) : ∀ (m i i2 p : Nat) (g g2 : Nat → Int32), (pt_run f ln m i p g).1 = true → pt_at f ln (pt_run f ln m i p g).2.1 = 10 → (pm_run f ln m i2 p g2).1 = true := by
  intro m
  induction m with
  | zero => intro i i2 p g g2 _ _; rfl
  | succ m ih =>
    intro i i2 p g g2 h h10
    rw [pt_run] at h h10
    by_cases c : pt_num f ln p = -1
    · rw [if_pos c] at h; exact absurd (show false = true from h) (by decide)
    · rw [if_neg c] at h h10
      rcases rd_n2 c with ⟨e1, e2⟩ | hd
      · rw [pm_run, e1, e2]
        have c2 : ¬ pt_num f ln p < 0 := by
          obtain ⟨u, hu, eu⟩ := pt_num_nat f ln p c
          rw [eu]; exact nI_pos hu
        rw [if_neg c2]
        exact ih _ _ _ _ _ h h10
      · cases m with
        | zero => exact absurd h10 (rd_dig hd).2
        | succ m =>
          rw [pt_run, if_pos (pt_num_no (rd_dig hd).1)] at h
          exact absurd (show false = true from h) (by decide)
/-- a line's text, alike -/
theorem rd_line {f : Nat → Int32} {ln q nl : Nat} {g nr : Nat → Int32} (h6 : ln ≤ 600) (hq : q ≤ 600) : (¬ pt_blv f ln q g = -1) ↔ (¬ pt_nbN (pt_at f ln q) = 0 ∧ (pm_run f ln (pt_nbN (pt_at f ln q)) (5 * nl + 1) (q + 1) nr).1 = true ∧ pt_at f ln (pm_run f ln (pt_nbN (pt_at f ln q)) (5 * nl + 1) (q + 1) nr).2.1 = 10) := by
  have hA := rd_A f ln (pt_nbN (pt_at f ln q)) 0 (5 * nl + 1) (q + 1) g nr
  have hB := rd_B f ln (pt_nbN (pt_at f ln q)) 0 (5 * nl + 1) (q + 1) g nr
  have hle := pt_run_le (f := f) h6 (pt_nbN (pt_at f ln q)) 0 (q + 1) g (by omega)
  unfold pt_blv pt_lr
  by_cases c : pt_nbN (pt_at f ln q) = 0
  · rw [if_pos c]; exact ⟨fun h => absurd rfl h, fun h => absurd c h.1⟩
  · rw [if_neg c]
    constructor
    · intro h
      by_cases d : (pt_run f ln (pt_nbN (pt_at f ln q)) 0 (q + 1) g).1 = true ∧ pt_at f ln (pt_run f ln (pt_nbN (pt_at f ln q)) 0 (q + 1) g).2.1 = 10
      · have b := hB d.1 d.2
        exact ⟨c, b, by rw [← (hA b).2.1]; exact d.2⟩
      · rw [if_neg d] at h; exact absurd rfl h
    · intro h
      have a := hA h.2.1
      rw [if_pos ⟨a.1, by rw [a.2.1]; exact h.2.2⟩]
      exact nI_m1 (by omega)
theorem rd_line2 {f : Nat → Int32} {ln q nl : Nat} {g nr : Nat → Int32} (h6 : ln ≤ 600) (hq : q ≤ 600) (h0 : ¬ pt_nbN (pt_at f ln q) = 0) (h1 : (pm_run f ln (pt_nbN (pt_at f ln q)) (5 * nl + 1) (q + 1) nr).1 = true) (h2 : pt_at f ln (pm_run f ln (pt_nbN (pt_at f ln q)) (5 * nl + 1) (q + 1) nr).2.1 = 10) :
    (pt_blv f ln q g).toNatClampNeg = pm_nxp f ln nl q nr ∧ (∀ k, k < pt_nbN (pt_at f ln q) → (pm_run f ln (pt_nbN (pt_at f ln q)) (5 * nl + 1) (q + 1) nr).2.2 (5 * nl + 1 + k) = pt_blg f ln q g k ∧ ∃ u, u < 2 ^ 31 ∧ pt_blg f ln q g k = nI u) ∧ (∀ k, k < 5 * nl + 1 → (pm_run f ln (pt_nbN (pt_at f ln q)) (5 * nl + 1) (q + 1) nr).2.2 k = nr k) := by
  have hA := rd_A f ln (pt_nbN (pt_at f ln q)) 0 (5 * nl + 1) (q + 1) g nr h1
  have hle := pt_run_le (f := f) h6 (pt_nbN (pt_at f ln q)) 0 (q + 1) g (by omega)
  have hn := pt_run_nat f ln (pt_nbN (pt_at f ln q)) 0 (q + 1) g hA.1
  refine ⟨?_, ?_, hA.2.2.2⟩
  · unfold pt_blv pt_lr pm_nxp
    rw [if_neg h0, if_pos ⟨hA.1, by rw [hA.2.1]; exact h2⟩, nI_clamp (by omega), hA.2.1]
  · intro k hk
    unfold pt_blg pt_lr
    rw [if_neg h0]
    have a := hA.2.2.1 k hk
    rw [Nat.zero_add] at a
    exact ⟨a.symm, hn.2 k (by omega) (by omega)⟩
