/-! the pure side: differences, counts, bookings -/
theorem df_0 {sh : Nat → Option Nat} {ce le : Nat → Int32} {i : Int32} : ∀ (e j b : Nat), (∀ k, j ≤ k → sh k = none) → pc_df sh ce le i e j b = -1 := by
  intro e
  induction e with
  | zero => intro j b _; rfl
  | succ e ih =>
    intro j b h
    rw [pc_df, if_neg (fun z => z.1 (h j (Nat.le_refl _)))]
    exact ih _ _ (fun k hk => h k (by omega))
theorem df_eq {sh : Nat → Option Nat} {go pr le : Nat → Int32} {i : Int32} : ∀ (m e j b : Nat), (∀ k, j ≤ k → k < j + m → (pc_dc sh pr le k ↔ (go k = 0 ∧ 0 ≤ le k ∧ ¬ le k = pr k))) → (∀ k, j + m ≤ k → sh k = none) → pc_df sh pr le i (m + e) j b = pm_df go le pr i m j b := by
  intro m
  induction m with
  | zero => intro e j b _ h; exact df_0 _ j b h
  | succ m ih =>
    intro e j b h h2
    rw [show m + 1 + e = (m + e) + 1 by omega, pc_df, pm_df]
    have r := fun b => ih e (j + 1) b (fun k x y => h k (by omega) (by omega)) (fun k x => h2 k (by omega))
    have hj := h j (Nat.le_refl _) (by omega)
    by_cases c : pc_dc sh pr le j
    · rw [if_pos c, if_pos (hj.mp c), r]
    · rw [if_neg c, if_neg (fun z => c (hj.mpr z)), r]
theorem ct_0 {sh : Nat → Option Nat} {se ce le : Nat → Int32} {w : Int32} : ∀ (e j : Nat) (t : Int32), (∀ k, j ≤ k → sh k = none) → pc_ct sh se ce le w e j t = t := by
  intro e
  induction e with
  | zero => intro j t _; rfl
  | succ e ih =>
    intro j t h
    rw [pc_ct, if_pos (h j (Nat.le_refl _))]
    exact ih _ _ (fun k hk => h k (by omega))
theorem ct_eq {sh : Nat → Option Nat} {se ce le : Nat → Int32} {w : Int32} {F : Nat → Int32 → Int32} : ∀ (m e j : Nat) (t : Int32), (∀ k t, j ≤ k → k < j + m → (sh k = none → F k t = t) ∧ (¬ sh k = none → F k t = t + pr_ad (se k) (ce k) (le k) w)) → (∀ k, j + m ≤ k → sh k = none) → pc_ct sh se ce le w (m + e) j t = pm_it F m j t := by
  intro m
  induction m with
  | zero => intro e j t _ h; exact ct_0 _ j t h
  | succ m ih =>
    intro e j t h h2
    rw [show m + 1 + e = (m + e) + 1 by omega, pc_ct, pm_it]
    have hj := h j t (Nat.le_refl _) (by omega)
    by_cases c : sh j = none
    · rw [if_pos c, hj.1 c]; exact ih e (j + 1) _ (fun k t x y => h k t (by omega) (by omega)) (fun k x => h2 k (by omega))
    · rw [if_neg c, hj.2 c]; exact ih e (j + 1) _ (fun k t x y => h k t (by omega) (by omega)) (fun k x => h2 k (by omega))
theorem cn_eq {sh : Nat → Option Nat} {go se pr le : Nat → Int32} {ln li mk : Nat} {w : Int32} (hm : mk ≤ 20) (h : ∀ j, sh j = none ↔ ¬ (j < mk ∧ go j = 0)) (h1 : ∀ j, j < mk → (se j = -1 ∨ 0 ≤ se j)) (h2 : ∀ j, j < mk → (le j = -1 ∨ 0 ≤ le j)) :
    pc_cn ln li sh se pr le w = pm_cn ln li (pm_it (pm_a1 go) mk 0 0) (pm_it (pm_a2 go se) mk 0 0) (pm_it (pm_a3 go se pr) mk 0 0) (pm_it (pm_a4 go le) mk 0 0) w := by
  have tail : ∀ k, 0 + mk ≤ k → sh k = none := fun k hk => (h k).mpr (fun z => by omega)
  have e20 : 20 = mk + (20 - mk) := by omega
  have nn : ¬ (0 : Int32) ≤ -1 := by decide
  have hg : ∀ k, 0 + mk > k → (sh k = none ↔ ¬ go k = 0) := fun k hk => (h k).trans ⟨fun z y => z ⟨by omega, y⟩, fun z y => z y.2⟩
  have k2 : pc_ct sh se pr le 2 20 0 0 = pm_it (pm_a1 go) mk 0 0 := by
    rw [e20]
    refine ct_eq mk _ 0 0 (fun k t _ y => ⟨fun z => ?_, fun z => ?_⟩) tail
    · exact if_neg ((hg k y).mp z)
    · rw [(hg k y)] at z
      rw [pm_a1, if_pos (Classical.not_not.mp z)]; rfl
  have k3 : pc_ct sh se pr le 3 20 0 0 = pm_it (pm_a2 go se) mk 0 0 := by
    rw [e20]
    refine ct_eq mk _ 0 0 (fun k t _ y => ⟨fun z => ?_, fun z => ?_⟩) tail
    · exact if_neg (fun q => (hg k y).mp z q.1)
    · rw [(hg k y)] at z
      have z := Classical.not_not.mp z
      rw [pm_a2]
      show _ = t + (if se k = -1 then 0 else 1)
      rcases h1 k (by omega) with q | q
      · rw [if_neg (fun x => by rw [q] at x; exact nn x.2), if_pos q, Int32.add_zero]
      · rw [if_pos ⟨z, q⟩, if_neg (fun x => by rw [x] at q; exact nn q)]
  have k4 : pc_ct sh se pr le 4 20 0 0 = pm_it (pm_a3 go se pr) mk 0 0 := by
    rw [e20]
    refine ct_eq mk _ 0 0 (fun k t _ y => ⟨fun z => ?_, fun z => ?_⟩) tail
    · exact if_neg (fun q => (hg k y).mp z q.1)
    · rw [(hg k y)] at z
      have z := Classical.not_not.mp z
      rw [pm_a3]
      show _ = t + (if se k = -1 then 0 else pr k)
      rcases h1 k (by omega) with q | q
      · rw [if_neg (fun x => by rw [q] at x; exact nn x.2), if_pos q, Int32.add_zero]
      · rw [if_pos ⟨z, q⟩, if_neg (fun x => by rw [x] at q; exact nn q)]
  have k5 : pc_ct sh se pr le 5 20 0 0 = pm_it (pm_a4 go le) mk 0 0 := by
    rw [e20]
    refine ct_eq mk _ 0 0 (fun k t _ y => ⟨fun z => ?_, fun z => ?_⟩) tail
    · exact if_neg (fun q => (hg k y).mp z q.1)
    · rw [(hg k y)] at z
      have z := Classical.not_not.mp z
      rw [pm_a4]
      show _ = t + (if le k = -1 then 0 else le k)
      rcases h2 k (by omega) with q | q
      · rw [if_neg (fun x => by rw [q] at x; exact nn x.2), if_pos q, Int32.add_zero]
      · rw [if_pos ⟨z, q⟩, if_neg (fun x => by rw [x] at q; exact nn q)]
  unfold pc_cn pm_cn
  by_cases c0 : w = 0
  · rw [if_pos c0, if_pos c0]
  rw [if_neg c0, if_neg c0]
  by_cases c1 : w = 1
  · rw [if_pos c1, if_pos c1]
  rw [if_neg c1, if_neg c1]
  by_cases c2 : w = 2
  · rw [c2, if_neg (by decide), if_pos rfl]; exact k2
  by_cases c3 : w = 3
  · rw [c3, if_neg (by decide), if_neg (by decide), if_pos rfl]; exact k3
  by_cases c4 : w = 4
  · rw [c4, if_neg (by decide), if_neg (by decide), if_neg (by decide), if_pos rfl]; exact k4
  by_cases c5 : w = 5
  · rw [c5, if_neg (by decide), if_neg (by decide), if_neg (by decide), if_neg (by decide), if_pos rfl]; exact k5
  rw [if_neg c2, if_neg c3, if_neg c4, if_neg c5, if_pos]
  have n2 : ¬ w.toInt = 2 := fun z => c2 (Int32.toInt_inj.mp (z.trans (by decide)))
  have n3 : ¬ w.toInt = 3 := fun z => c3 (Int32.toInt_inj.mp (z.trans (by decide)))
  have n4 : ¬ w.toInt = 4 := fun z => c4 (Int32.toInt_inj.mp (z.trans (by decide)))
  have n5 : ¬ w.toInt = 5 := fun z => c5 (Int32.toInt_inj.mp (z.trans (by decide)))
  rw [Int32.lt_iff_toInt_lt, Int32.lt_iff_toInt_lt, show (2 : Int32).toInt = 2 by decide, show (5 : Int32).toInt = 5 by decide]
  omega
theorem pl_bk_s (go se : Nat → Int32) (a : Int32) : ∀ m j t, pl_bk go se a (m + 1) j t = if go (j + m) = 0 ∧ se (j + m) = a then pl_bk go se a m j t + 1 else pl_bk go se a m j t := by
  intro m
  induction m with
  | zero => intro j t; rfl
  | succ m ih =>
    intro j t
    rw [pl_bk, ih, show j + 1 + m = j + (m + 1) by omega]
    rfl
theorem pl_bk_c {go se go2 se2 : Nat → Int32} {a : Int32} : ∀ m j t, (∀ k, j ≤ k → k < j + m → ((go k = 0 ∧ se k = a) ↔ (go2 k = 0 ∧ se2 k = a))) → pl_bk go se a m j t = pl_bk go2 se2 a m j t := by
  intro m
  induction m with
  | zero => intro j t _; rfl
  | succ m ih =>
    intro j t h
    rw [pl_bk, pl_bk]
    have hj := h j (Nat.le_refl _) (by omega)
    have e : (if go j = 0 ∧ se j = a then t + 1 else t) = (if go2 j = 0 ∧ se2 j = a then t + 1 else t) := by
      by_cases c : go j = 0 ∧ se j = a
      · rw [if_pos c, if_pos (hj.mp c)]
      · rw [if_neg c, if_neg (fun z => c (hj.mpr z))]
    rw [e]
    exact ih _ _ (fun k x y => h k (by omega) (by omega))
theorem pl_bk_u {go se : Nat → Int32} {a v : Int32} {j : Nat} (h0 : go j = 0) (h1 : ¬ se j = a) : ∀ m, j < m → pl_bk go (upd se j v) a m 0 0 = if v = a then pl_bk go se a m 0 0 + 1 else pl_bk go se a m 0 0 := by
  intro m
  induction m with
  | zero => intro h; exact absurd h (Nat.not_lt_zero _)
  | succ m ih =>
    intro h
    rw [pl_bk_s, pl_bk_s, Nat.zero_add]
    by_cases c : j = m
    · subst c
      rw [pl_bk_c (go2 := go) (se2 := se) j 0 0 (fun k _ y => by rw [upd_ne _ _ (by omega)]), upd_self, if_neg (fun z => h1 z.2 : ¬ (go j = 0 ∧ se j = a))]
      by_cases d : v = a
      · rw [if_pos ⟨h0, d⟩, if_pos d]
      · rw [if_neg (fun z => d z.2), if_neg d]
    · rw [ih (by omega), upd_ne _ _ (fun z => c z.symm)]
      by_cases d : v = a
      · rw [if_pos d, if_pos d]
        by_cases e : go m = 0 ∧ se m = a
        · rw [if_pos e, if_pos e]
        · rw [if_neg e, if_neg e]
      · rw [if_neg d, if_neg d]
