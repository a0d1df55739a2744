/-! RateBreaks.Rates: the small ones -/
/-- the weight of the last step of a lane among the steps i .. i + m, behind g -/
def pr_hv (la ut : Nat → Int32) (l : Int32) : Nat → Nat → Int32 → Int32
  | 0, _, g => g
  | m + 1, i, g => pr_hv la ut l m (i + 1) (if la i = l then ut i else g)
/-- the first step of the lane that bears the grams, from i on -/
def pr_st (la ut : Nat → Int32) (l w : Int32) : Nat → Nat → Int32
  | 0, _ => -1
  | m + 1, i => if la i = l ∧ w ≤ ut i then nI i else pr_st la ut l w m (i + 1)
theorem c_Ra_heaviest_loop {d K N n x li sp : Nat} {C : Nat → va_E} {la ut : Nat → Int32} (hx : C (x) = .inr (2, [.ref (x + 1), .ref (x + 2), .ref (x + 3), .ref (x + 4), .ref (x + 5), .ref (x + 6), .ref (x + 7), .ref (x + 8), .int (nI li), .int (nI sp)])) (hla : C (x + 1) = .inl (0, 60, .inl la)) (hut : C (x + 3) = .inl (0, 60, .inl ut)) (h60 : sp ≤ 60) {l : Int32} {Q : gj_R → Prop} : ∀ (m i : Nat) (g : Int32), i + m = sp → Q (gj_iv (pr_hv la ut l m i g), n, C) → gj_G md_Ra_heaviest d K N 0 0 4 [(0, .ref x), (1, .int l), (2, .int g), (3, .int (nI i))] [] n C Q := by
  intro m
  induction m with
  | zero =>
    intro i g hi hend
    have hi : i = sp := hi
    subst hi
    refine gj_iload_n d_Ra_heaviest_4 rfl ?_
    refine gj_aload_n d_Ra_heaviest_5 rfl ?_
    refine gj_get d_Ra_heaviest_6 gf_Ra_43 hx rfl ?_
    refine gj_icmp_ge (tgt := 35) d_Ra_heaviest_9 (by decide) (fun _ => ?_) (fun h26 => absurd (nI_le (Nat.le_refl i) (by omega)) h26)
    refine gj_iload_n d_Ra_heaviest_35 rfl ?_
    exact gj_iret rfl (Nat.zero_le _) (Nat.zero_le _) d_Ra_heaviest_36 hend
  | succ m ih =>
    intro i g hi hend
    refine gj_iload_n d_Ra_heaviest_4 rfl ?_
    refine gj_aload_n d_Ra_heaviest_5 rfl ?_
    refine gj_get d_Ra_heaviest_6 gf_Ra_43 hx rfl ?_
    refine gj_icmp_ge (tgt := 35) d_Ra_heaviest_9 (by decide) (fun h9 => absurd h9 (nI_ge (by omega) (by omega))) (fun h9 => ?_)
    refine gj_aload_n d_Ra_heaviest_12 rfl ?_
    refine gj_get d_Ra_heaviest_13 gf_Ra_9 hx rfl ?_
    refine gj_iload_n d_Ra_heaviest_16 rfl ?_
    refine gj_iald d_Ra_heaviest_17 hla rfl (vp_in_nI (by omega) (by decide)) ?_
    refine gj_top (y := la (i)) (congrArg la (nI_clamp (by omega))) ?_
    refine gj_iload_n d_Ra_heaviest_18 rfl ?_
    refine gj_icmp_ne (tgt := 29) d_Ra_heaviest_19 (by decide) (fun h19 => ?_) (fun h19 => ?_)
    · refine gj_iinc d_Ra_heaviest_29 rfl (by decide) ?_
      refine gj_goto (tgt := 4) d_Ra_heaviest_32 (by decide) ?_
      refine gj_less (lc' := [(0, .ref (x)), (1, .int l), (2, .int (g)), (3, .int (nI i + 1))]) ⟨rfl, rfl, rfl, rfl, trivial⟩ ?_
      rw [nI_1]
      have := ih (i + 1) (if la i = l then ut i else g) (by omega) hend
      rw [if_neg h19] at this
      exact this
    · refine gj_aload_n d_Ra_heaviest_22 rfl ?_
      refine gj_get d_Ra_heaviest_23 gf_Ra_18 hx rfl ?_
      refine gj_iload_n d_Ra_heaviest_26 rfl ?_
      refine gj_iald d_Ra_heaviest_27 hut rfl (vp_in_nI (by omega) (by decide)) ?_
      refine gj_top (y := ut (i)) (congrArg ut (nI_clamp (by omega))) ?_
      refine gj_istore_n d_Ra_heaviest_28 (by decide) ?_
      refine gj_iinc d_Ra_heaviest_29 rfl (by decide) ?_
      refine gj_goto (tgt := 4) d_Ra_heaviest_32 (by decide) ?_
      refine gj_less (lc' := [(0, .ref (x)), (1, .int l), (2, .int (ut (i))), (3, .int (nI i + 1))]) ⟨rfl, rfl, rfl, rfl, trivial⟩ ?_
      rw [nI_1]
      have := ih (i + 1) (if la i = l then ut i else g) (by omega) hend
      rw [if_pos h19] at this
      exact this
theorem c_Ra_heaviest {d K N n x li sp : Nat} {C : Nat → va_E} {la ut : Nat → Int32} (hx : C (x) = .inr (2, [.ref (x + 1), .ref (x + 2), .ref (x + 3), .ref (x + 4), .ref (x + 5), .ref (x + 6), .ref (x + 7), .ref (x + 8), .int (nI li), .int (nI sp)])) (hla : C (x + 1) = .inl (0, 60, .inl la)) (hut : C (x + 3) = .inl (0, 60, .inl ut)) (h60 : sp ≤ 60) {l : Int32} : gj_G md_Ra_heaviest d K N 0 0 0 [(0, .ref x), (1, .int l)] [] n C (fun r => r = (gj_iv (pr_hv la ut l sp 0 0), n, C)) := by
  refine gj_kc (v := 0) d_Ra_heaviest_0 (by decide) ?_
  refine gj_istore_n d_Ra_heaviest_1 (by decide) ?_
  refine gj_kc (v := 0) d_Ra_heaviest_2 (by decide) ?_
  refine gj_istore_n d_Ra_heaviest_3 (by decide) ?_
  refine gj_less (lc' := [(0, .ref (x)), (1, .int l), (2, .int 0), (3, .int (nI 0))]) ⟨rfl, rfl, rfl, rfl, trivial⟩ ?_
  exact c_Ra_heaviest_loop hx hla hut h60 sp 0 0 (by omega) rfl
