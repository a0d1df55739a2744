/-! the pure side: lines of rates; the reading -/
theorem nI_lane {a b : Nat} : nI a * 10 + nI b = nI (a * 10 + b) := by
  rw [show (10 : Int32) = nI 10 by rfl, nI_mul, nI_add]
theorem nI_lane_eq {a b c d : Nat} (ha : a < 10) (hb : b < 10) (hc : c < 10) (hd : d < 10) : nI a * 10 + nI b = nI c * 10 + nI d ↔ a = c ∧ b = d := by
  rw [nI_lane, nI_lane, nI_eq (by omega) (by omega)]
  omega
theorem pr_hv_s (la ut : Nat → Int32) (l : Int32) : ∀ m i g, pr_hv la ut l (m + 1) i g = if la (i + m) = l then ut (i + m) else pr_hv la ut l m i g := by
  intro m
  induction m with
  | zero => intro i g; rfl
  | succ m ih =>
    intro i g
    show pr_hv la ut l (m + 1) (i + 1) _ = if la (i + (m + 1)) = l then ut (i + (m + 1)) else pr_hv la ut l m (i + 1) _
    rw [ih, show i + 1 + m = i + (m + 1) by omega]
theorem pr_hv_c {la ut la2 ut2 : Nat → Int32} {l : Int32} : ∀ m i g, (∀ k, i ≤ k → k < i + m → la k = la2 k ∧ ut k = ut2 k) → pr_hv la ut l m i g = pr_hv la2 ut2 l m i g := by
  intro m
  induction m with
  | zero => intro i g _; rfl
  | succ m ih =>
    intro i g h
    obtain ⟨e1, e2⟩ := h i (by omega) (by omega)
    show pr_hv la ut l m (i + 1) _ = pr_hv la2 ut2 l m (i + 1) _
    rw [e1, e2]
    exact ih _ _ (fun k a b => h k (by omega) (by omega))
theorem pl_hv_s (f : Nat → Int32) (a b : Int32) : ∀ m k g, pl_hv f a b (m + 1) k g = if f (5 * (k + m)) = 82 ∧ f (5 * (k + m) + 1) = a ∧ f (5 * (k + m) + 2) = b then f (5 * (k + m) + 3) else pl_hv f a b m k g := by
  intro m
  induction m with
  | zero => intro k g; rfl
  | succ m ih =>
    intro k g
    show pl_hv f a b (m + 1) (k + 1) _ = _
    rw [ih, show k + 1 + m = k + (m + 1) by omega]
    rfl
theorem pl_hv_c {f f2 : Nat → Int32} {a b : Int32} : ∀ m k g, (∀ j, 5 * k ≤ j → j < 5 * (k + m) → f j = f2 j) → pl_hv f a b m k g = pl_hv f2 a b m k g := by
  intro m
  induction m with
  | zero => intro k g _; rfl
  | succ m ih =>
    intro k g h
    show pl_hv f a b m (k + 1) _ = pl_hv f2 a b m (k + 1) _
    rw [h (5 * k) (by omega) (by omega), h (5 * k + 1) (by omega) (by omega), h (5 * k + 2) (by omega) (by omega), h (5 * k + 3) (by omega) (by omega)]
    exact ih _ _ (fun j x y => h j (by omega) (by omega))
theorem pl_fd_some {f : Nat → Int32} {L a : Int32} {j : Nat} : ∀ m k, pl_fd f L a m k = some j → pl_fd f L a (m + 1) k = some j := by
  intro m
  induction m with
  | zero => intro k h; exact nomatch h
  | succ m ih =>
    intro k h
    rw [pl_fd] at h ⊢
    split
    · rename_i c; rw [if_pos c] at h; exact h
    · rename_i c; rw [if_neg c] at h; exact ih _ h
theorem pl_fd_none {f : Nat → Int32} {L a : Int32} : ∀ m k, pl_fd f L a m k = none → pl_fd f L a (m + 1) k = if f (5 * (k + m)) = L ∧ f (5 * (k + m) + 1) = a then some (k + m) else none := by
  intro m
  induction m with
  | zero => intro k h; rfl
  | succ m ih =>
    intro k h
    rw [pl_fd] at h ⊢
    by_cases c : f (5 * k) = L ∧ f (5 * k + 1) = a
    · rw [if_pos c] at h; exact nomatch h
    · rw [if_neg c] at h ⊢; rw [ih _ h, show k + 1 + m = k + (m + 1) by omega]
theorem pl_fd_is {f : Nat → Int32} {L a : Int32} : ∀ m k j, pl_fd f L a m k = some j → f (5 * j) = L ∧ f (5 * j + 1) = a := by
  intro m
  induction m with
  | zero => intro k j h; exact nomatch h
  | succ m ih =>
    intro k j h
    rw [pl_fd] at h
    by_cases c : f (5 * k) = L ∧ f (5 * k + 1) = a
    · rw [if_pos c] at h; cases h; exact c
    · rw [if_neg c] at h; exact ih _ _ h
theorem pl_fd_c {f f2 : Nat → Int32} {L a : Int32} : ∀ m k, (∀ j, 5 * k ≤ j → j < 5 * (k + m) → f j = f2 j) → pl_fd f L a m k = pl_fd f2 L a m k := by
  intro m
  induction m with
  | zero => intro k _; rfl
  | succ m ih =>
    intro k h
    rw [pl_fd, pl_fd, h (5 * k) (by omega) (by omega), h (5 * k + 1) (by omega) (by omega), ih _ (fun j x y => h j (by omega) (by omega))]
/-- the tables that the lines make -/
def rt_F (lr : Nat → Int32) : Nat → pr_T → pr_T
  | 0, T => T
  | k + 1, T => pr_nx (lr (5 * k)) (lr (5 * k + 1)).toNatClampNeg (lr (5 * k + 2)) (lr (5 * k + 3)) (lr (5 * k + 4)) (rt_F lr k T)
theorem rt_F_c {f f2 : Nat → Int32} {T : pr_T} : ∀ m, (∀ j, j < 5 * m → f j = f2 j) → rt_F f m T = rt_F f2 m T := by
  intro m
  induction m with
  | zero => intro _; rfl
  | succ m ih =>
    intro h
    rw [rt_F, rt_F, ih (fun j x => h j (by omega)), h (5 * m) (by omega), h (5 * m + 1) (by omega), h (5 * m + 2) (by omega), h (5 * m + 3) (by omega), h (5 * m + 4) (by omega)]
/-- a line that may stand behind the tables T -/
def rt_l (lr : Nat → Int32) (k : Nat) (T : pr_T) : Prop :=
  (lr (5 * k) = 82 ∧ ∃ a b c e : Nat, a < 10 ∧ b < 10 ∧ c ≤ 100000 ∧ e ≤ 1000000 ∧ lr (5 * k + 1) = nI a ∧ lr (5 * k + 2) = nI b ∧ lr (5 * k + 3) = nI c ∧ lr (5 * k + 4) = nI e ∧ pr_hv T.1 T.2.2.1 (nI a * 10 + nI b) T.2.2.2.2.2.2.2.2 0 0 < nI c) ∨
  (lr (5 * k) = 68 ∧ ∃ a v : Nat, a < 10 ∧ v ≤ 100000 ∧ lr (5 * k + 1) = nI a ∧ lr (5 * k + 2) = nI v ∧ T.2.2.2.2.1 a = -1) ∨
  (lr (5 * k) = 77 ∧ ∃ a v : Nat, a < 10 ∧ v ≤ 1000000 ∧ lr (5 * k + 1) = nI a ∧ lr (5 * k + 2) = nI v ∧ T.2.2.2.2.2.1 a = -1) ∨
  (lr (5 * k) = 70 ∧ ∃ a v w : Nat, a < 10 ∧ v ≤ w ∧ 1 ≤ w ∧ w ≤ 1000 ∧ lr (5 * k + 1) = nI a ∧ lr (5 * k + 2) = nI v ∧ lr (5 * k + 3) = nI w ∧ T.2.2.2.2.2.2.1 a = -1 ∧ T.2.2.2.2.2.2.2.1 a = -1)
theorem rt_l_c {f f2 : Nat → Int32} {k : Nat} {T : pr_T} (h : ∀ j, 5 * k ≤ j → j < 5 * k + 5 → f j = f2 j) (hl : rt_l f k T) : rt_l f2 k T := by
  unfold rt_l at hl ⊢
  rw [← h (5 * k) (by omega) (by omega), ← h (5 * k + 1) (by omega) (by omega), ← h (5 * k + 2) (by omega) (by omega), ← h (5 * k + 3) (by omega) (by omega), ← h (5 * k + 4) (by omega) (by omega)]
  exact hl
def rt_ok (lr : Nat → Int32) (li : Nat) (T0 : pr_T) : Prop := ∀ k, k < li → rt_l lr k (rt_F lr k T0)
theorem rt_ok_c {f f2 : Nat → Int32} {m : Nat} {T : pr_T} (h : ∀ j, j < 5 * m → f j = f2 j) (hl : rt_ok f m T) : rt_ok f2 m T := by
  intro k hk
  have a := rt_l_c (fun j _ y => h j (by omega)) (hl k hk)
  rw [rt_F_c k (fun j x => h j (by omega))] at a
  exact a
def rt_0 (T : pr_T) : Prop := T.2.2.2.2.2.2.2.2 = 0 ∧ ∀ a, a < 10 → T.2.2.2.2.1 a = -1 ∧ T.2.2.2.2.2.1 a = -1 ∧ T.2.2.2.2.2.2.1 a = -1 ∧ T.2.2.2.2.2.2.2.1 a = -1
theorem pr_nx_82 (j : Nat) (b c e : Int32) (T : pr_T) : pr_nx 82 j b c e T = (upd T.1 T.2.2.2.2.2.2.2.2 (nI j * 10 + b), upd T.2.1 T.2.2.2.2.2.2.2.2 (pr_hv T.1 T.2.2.1 (nI j * 10 + b) T.2.2.2.2.2.2.2.2 0 0), upd T.2.2.1 T.2.2.2.2.2.2.2.2 c, upd T.2.2.2.1 T.2.2.2.2.2.2.2.2 e, T.2.2.2.2.1, T.2.2.2.2.2.1, T.2.2.2.2.2.2.1, T.2.2.2.2.2.2.2.1, T.2.2.2.2.2.2.2.2 + 1) := rfl
theorem pr_nx_68 (j : Nat) (b c e : Int32) (T : pr_T) : pr_nx 68 j b c e T = (T.1, T.2.1, T.2.2.1, T.2.2.2.1, upd T.2.2.2.2.1 j b, T.2.2.2.2.2.1, T.2.2.2.2.2.2.1, T.2.2.2.2.2.2.2.1, T.2.2.2.2.2.2.2.2) := rfl
theorem pr_nx_77 (j : Nat) (b c e : Int32) (T : pr_T) : pr_nx 77 j b c e T = (T.1, T.2.1, T.2.2.1, T.2.2.2.1, T.2.2.2.2.1, upd T.2.2.2.2.2.1 j b, T.2.2.2.2.2.2.1, T.2.2.2.2.2.2.2.1, T.2.2.2.2.2.2.2.2) := rfl
theorem pr_nx_70 (j : Nat) (b c e : Int32) (T : pr_T) : pr_nx 70 j b c e T = (T.1, T.2.1, T.2.2.1, T.2.2.2.1, T.2.2.2.2.1, T.2.2.2.2.2.1, upd T.2.2.2.2.2.2.1 j b, upd T.2.2.2.2.2.2.2.1 j c, T.2.2.2.2.2.2.2.2) := rfl
