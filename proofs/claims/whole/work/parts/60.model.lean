/-! RateBreaksModel: the small ones -/
def pm_nt (v a b : Int32) : Int32 := if a ≤ v ∧ v ≤ b then 0 else 1
theorem pm_nt0 {v a b : Int32} (h : a ≤ v ∧ v ≤ b) : pm_nt v a b = 0 := if_pos h
theorem pm_nt1 {v a b : Int32} (h : ¬ (a ≤ v ∧ v ≤ b)) : pm_nt v a b = 1 := if_neg h
/-- the first line of letter L of service a -/
def pl_fd (f : Nat → Int32) (L a : Int32) : Nat → Nat → Option Nat
  | 0, _ => none
  | m + 1, k => if f (5 * k) = L ∧ f (5 * k + 1) = a then some k else pl_fd f L a m (k + 1)
def pl_c5 : Option Nat → Int32
  | none => -1
  | some k => nI (5 * k)
theorem pl_fd_lt (f : Nat → Int32) (L a : Int32) : ∀ m k j, pl_fd f L a m k = some j → k ≤ j ∧ j < k + m
  | 0, _, _, h => nomatch h
  | m + 1, k, j, h => by
    unfold pl_fd at h
    split at h
    · cases h; omega
    · have := pl_fd_lt f L a m (k + 1) j h; omega
def pl_hv (f : Nat → Int32) (a b : Int32) : Nat → Nat → Int32 → Int32
  | 0, _, g => g
  | m + 1, k, g => pl_hv f a b m (k + 1) (if f (5 * k) = 82 ∧ f (5 * k + 1) = a ∧ f (5 * k + 2) = b then f (5 * k + 3) else g)
def pl_bk (go se : Nat → Int32) (a : Int32) : Nat → Nat → Int32 → Int32
  | 0, _, t => t
  | m + 1, j, t => pl_bk go se a m (j + 1) (if go j = 0 ∧ se j = a then t + 1 else t)
def pl_pc (f : Nat → Int32) (a z w : Int32) : Nat → Nat → Int32 → Int32
  | 0, _, c => c
  | m + 1, k, c => if 0 ≤ c then c else pl_pc f a z w m (k + 1) (if f (5 * k) = 82 ∧ f (5 * k + 1) = a ∧ f (5 * k + 2) = z ∧ w ≤ f (5 * k + 3) then f (5 * k + 4) else c)
set_option maxHeartbeats 2000000 in
theorem c_Mo_not {d K N n : Nat} {C : Nat → va_E} (v a b : Int32) : gj_G md_Mo_not (d) K N 0 0 0 [(0, .int (v)), (1, .int (a)), (2, .int (b))] [] (n) C (fun r => r = (gj_iv (pm_nt v a b), n, C)) := by
  refine gj_iload_n d_Mo_not_0 rfl ?_
  refine gj_iload_n d_Mo_not_1 rfl ?_
  refine gj_icmp_lt (tgt := 10) d_Mo_not_2 (by decide) (fun h2 => ?_) (fun h2 => ?_)
  · refine gj_kc (v := 1) d_Mo_not_10 (by decide) ?_
    refine gj_goto (tgt := 15) d_Mo_not_11 (by decide) ?_
    refine gj_zret rfl (by first | exact Or.inl rfl | exact Or.inr rfl) (Nat.zero_le _) (Nat.zero_le _) d_Mo_not_15 ?_
    exact gj_ei (if_neg (by first | exact fun q => absurd q.1 (Int32.not_le.mpr h2) | exact fun q => h7 q.2)).symm
  · refine gj_iload_n d_Mo_not_5 rfl ?_
    refine gj_iload_n d_Mo_not_6 rfl ?_
    refine gj_icmp_le (tgt := 14) d_Mo_not_7 (by decide) (fun h7 => ?_) (fun h7 => ?_)
    · refine gj_kc (v := 0) d_Mo_not_14 (by decide) ?_
      refine gj_zret rfl (by first | exact Or.inl rfl | exact Or.inr rfl) (Nat.zero_le _) (Nat.zero_le _) d_Mo_not_15 ?_
      exact gj_ei (if_pos ⟨Int32.not_lt.mp h2, h7⟩).symm
    · refine gj_kc (v := 1) d_Mo_not_10 (by decide) ?_
      refine gj_goto (tgt := 15) d_Mo_not_11 (by decide) ?_
      refine gj_zret rfl (by first | exact Or.inl rfl | exact Or.inr rfl) (Nat.zero_le _) (Nat.zero_le _) d_Mo_not_15 ?_
      exact gj_ei (if_neg (by first | exact fun q => absurd q.1 (Int32.not_le.mpr h2) | exact fun q => h7 q.2)).symm
set_option maxHeartbeats 2000000 in
theorem c_Mo_here {d K N n sg li nl ap ns dy : Nat} {tc : Int32} {C : Nat → va_E} {tx : Nat → Int32} (m70 : C (70) = .inr (5, [.int (tc), .ref (71), .int (nI sg), .int (nI li), .ref (72), .int (nI nl), .ref (73), .int (nI ap), .int (nI ns), .ref (74), .ref (75), .ref (76), .ref (77), .ref (78), .ref (79), .ref (80), .ref (81), .ref (82), .ref (83), .ref (84), .int (nI dy), .ref (85), .ref (86), .ref (87), .ref (88), .ref (89), .ref (90)])) (m71 : C (71) = .inl (0, 600, .inl tx)) (h6 : sg ≤ 600) (hap : ap ≤ 700) : gj_G md_Mo_here (d) K N 0 0 0 [(0, .ref (70))] [] (n) C (fun r => r = (gj_iv (pt_at tx sg ap), n, C)) := by
  refine gj_aload_n d_Mo_here_0 rfl ?_
  refine gj_get d_Mo_here_1 gf_Mo_32 m70 rfl ?_
  refine gj_aload_n d_Mo_here_4 rfl ?_
  refine gj_get d_Mo_here_5 gf_Mo_17 m70 rfl ?_
  refine gj_icmp_ge (tgt := 23) d_Mo_here_8 (by decide) (fun h8 => ?_) (fun h8 => ?_)
  · have m8 : sg ≤ ap := (nI_leI (a := sg) (b := ap) (by omega) (by omega)).mp h8
    refine gj_kc (v := (-1)) d_Mo_here_23 (by decide) ?_
    refine gj_iret rfl (Nat.zero_le _) (Nat.zero_le _) d_Mo_here_24 ?_
    exact gj_ei (if_neg (by omega)).symm
  · have m8 : ¬ (sg ≤ ap) := fun q => h8 ((nI_leI (a := sg) (b := ap) (by omega) (by omega)).mpr q)
    refine gj_aload_n d_Mo_here_11 rfl ?_
    refine gj_get d_Mo_here_12 gf_Mo_13 m70 rfl ?_
    refine gj_aload_n d_Mo_here_15 rfl ?_
    refine gj_get d_Mo_here_16 gf_Mo_32 m70 rfl ?_
    refine gj_iald d_Mo_here_19 m71 rfl (vp_in_nI (by omega) (by decide)) ?_
    refine gj_top (y := tx (ap)) (congrArg tx (nI_clamp (by omega))) ?_
    refine gj_goto (tgt := 24) d_Mo_here_20 (by decide) ?_
    refine gj_iret rfl (Nat.zero_le _) (Nat.zero_le _) d_Mo_here_24 ?_
    exact gj_ei (if_pos (by omega)).symm
def pl_sn : Option Nat → Int32
  | none => 0
  | some _ => 1
set_option maxHeartbeats 2000000 in
theorem c_Mo_seen_loop {d K N n sg li nl ap ns dy : Nat} {tc : Int32} {C : Nat → va_E} {nr : Nat → Int32} (m70 : C (70) = .inr (5, [.int (tc), .ref (71), .int (nI sg), .int (nI li), .ref (72), .int (nI nl), .ref (73), .int (nI ap), .int (nI ns), .ref (74), .ref (75), .ref (76), .ref (77), .ref (78), .ref (79), .ref (80), .ref (81), .ref (82), .ref (83), .ref (84), .int (nI dy), .ref (85), .ref (86), .ref (87), .ref (88), .ref (89), .ref (90)])) (m73 : C (73) = .inl (0, 300, .inl nr)) (hnl : nl ≤ 60) {L a : Int32} {Q : gj_R → Prop} : ∀ (m : Nat) (k : Nat), k + m = nl → Q (gj_iv (pl_sn (pl_fd nr L a m k)), n, C) → gj_G md_Mo_seen (d) K N 0 0 2 [(0, .ref (70)), (1, .int (L)), (2, .int (a)), (3, .int (nI k))] [] (n) C Q := by
  intro m
  induction m with
  | zero =>
    intro k hm hend
    refine gj_iload_n d_Mo_seen_2 rfl ?_
    refine gj_aload_n d_Mo_seen_3 rfl ?_
    refine gj_get d_Mo_seen_4 gf_Mo_26 m70 rfl ?_
    refine gj_icmp_ge (tgt := 44) d_Mo_seen_7 (by decide) (fun h7 => ?_) (fun h7 => by have m7 : ¬ (nl ≤ k) := fun q => h7 ((nI_leI (a := nl) (b := k) (by omega) (by omega)).mpr q); exact absurd (show nl ≤ k from by omega) m7)
    have m7 : nl ≤ k := (nI_leI (a := nl) (b := k) (by omega) (by omega)).mp h7
    refine gj_kc (v := 0) d_Mo_seen_44 (by decide) ?_
    refine gj_zret rfl (by first | exact Or.inl rfl | exact Or.inr rfl) (Nat.zero_le _) (Nat.zero_le _) d_Mo_seen_45 ?_
    exact hend
  | succ m ih =>
    intro k hm hend
    refine gj_iload_n d_Mo_seen_2 rfl ?_
    refine gj_aload_n d_Mo_seen_3 rfl ?_
    refine gj_get d_Mo_seen_4 gf_Mo_26 m70 rfl ?_
    refine gj_icmp_ge (tgt := 44) d_Mo_seen_7 (by decide) (fun h7 => by have m7 : nl ≤ k := (nI_leI (a := nl) (b := k) (by omega) (by omega)).mp h7; exact absurd m7 (show ¬ (nl ≤ k) from by omega)) (fun h7 => ?_)
    have m7 : ¬ (nl ≤ k) := fun q => h7 ((nI_leI (a := nl) (b := k) (by omega) (by omega)).mpr q)
    refine gj_aload_n d_Mo_seen_10 rfl ?_
    refine gj_get d_Mo_seen_11 gf_Mo_29 m70 rfl ?_
    refine gj_kc (v := 5) d_Mo_seen_14 (by decide) ?_
    refine gj_iload_n d_Mo_seen_15 rfl ?_
    refine gj_imul d_Mo_seen_16 ?_
    refine gj_top (y := nI (5 * k)) (nI_mul (5) (k)) ?_
    refine gj_iald d_Mo_seen_17 m73 rfl (vp_in_nI (by omega) (by decide)) ?_
    refine gj_top (y := nr (5 * k)) (congrArg nr (nI_clamp (by omega))) ?_
    refine gj_iload_n d_Mo_seen_18 rfl ?_
    refine gj_icmp_ne (tgt := 38) d_Mo_seen_19 (by decide) (fun h19 => ?_) (fun h19 => ?_)
    · refine gj_iincN d_Mo_seen_38 rfl (by decide) ?_
      refine gj_goto (tgt := 2) d_Mo_seen_41 (by decide) ?_
      refine gj_less (lc' := [(0, .ref (70)), (1, .int (L)), (2, .int (a)), (3, .int (nI (k + 1)))]) ⟨rfl, rfl, rfl, rfl, trivial⟩ ?_
      refine ih (k + 1) (by omega) ?_
      have e : pl_fd nr L a (m + 1) k = pl_fd nr L a m (k + 1) := if_neg (fun q => by first | exact h19 q.1 | exact h33 q.2)
      rw [e] at hend; exact hend
    · refine gj_aload_n d_Mo_seen_22 rfl ?_
      refine gj_get d_Mo_seen_23 gf_Mo_29 m70 rfl ?_
      refine gj_kc (v := 5) d_Mo_seen_26 (by decide) ?_
      refine gj_iload_n d_Mo_seen_27 rfl ?_
      refine gj_imul d_Mo_seen_28 ?_
      refine gj_top (y := nI (5 * k)) (nI_mul (5) (k)) ?_
      refine gj_kc (v := 1) d_Mo_seen_29 (by decide) ?_
      refine gj_iadd d_Mo_seen_30 ?_
      refine gj_top (y := nI ((5 * k) + 1)) (nI_add (5 * k) (1)) ?_
      refine gj_iald d_Mo_seen_31 m73 rfl (vp_in_nI (by omega) (by decide)) ?_
      refine gj_top (y := nr ((5 * k) + 1)) (congrArg nr (nI_clamp (by omega))) ?_
      refine gj_iload_n d_Mo_seen_32 rfl ?_
      refine gj_icmp_ne (tgt := 38) d_Mo_seen_33 (by decide) (fun h33 => ?_) (fun h33 => ?_)
      · refine gj_iincN d_Mo_seen_38 rfl (by decide) ?_
        refine gj_goto (tgt := 2) d_Mo_seen_41 (by decide) ?_
        refine gj_less (lc' := [(0, .ref (70)), (1, .int (L)), (2, .int (a)), (3, .int (nI (k + 1)))]) ⟨rfl, rfl, rfl, rfl, trivial⟩ ?_
        refine ih (k + 1) (by omega) ?_
        have e : pl_fd nr L a (m + 1) k = pl_fd nr L a m (k + 1) := if_neg (fun q => by first | exact h19 q.1 | exact h33 q.2)
        rw [e] at hend; exact hend
      · refine gj_kc (v := 1) d_Mo_seen_36 (by decide) ?_
        refine gj_zret rfl (by first | exact Or.inl rfl | exact Or.inr rfl) (Nat.zero_le _) (Nat.zero_le _) d_Mo_seen_37 ?_
        have e : pl_fd nr L a (m + 1) k = some k := if_pos ⟨h19, h33⟩
        rw [e] at hend; exact hend
set_option maxHeartbeats 2000000 in
theorem c_Mo_seen {d K N n sg li nl ap ns dy : Nat} {tc : Int32} {C : Nat → va_E} {nr : Nat → Int32} (m70 : C (70) = .inr (5, [.int (tc), .ref (71), .int (nI sg), .int (nI li), .ref (72), .int (nI nl), .ref (73), .int (nI ap), .int (nI ns), .ref (74), .ref (75), .ref (76), .ref (77), .ref (78), .ref (79), .ref (80), .ref (81), .ref (82), .ref (83), .ref (84), .int (nI dy), .ref (85), .ref (86), .ref (87), .ref (88), .ref (89), .ref (90)])) (m73 : C (73) = .inl (0, 300, .inl nr)) (hnl : nl ≤ 60) {L a : Int32} : gj_G md_Mo_seen (d) K N 0 0 0 [(0, .ref (70)), (1, .int (L)), (2, .int (a))] [] (n) C (fun r => r = (gj_iv (pl_sn (pl_fd nr L a nl 0)), n, C)) := by
  refine gj_kc (v := 0) d_Mo_seen_0 (by decide) ?_
  refine gj_istore_n d_Mo_seen_1 (by decide) ?_
  refine gj_less (lc' := [(0, .ref (70)), (1, .int (L)), (2, .int (a)), (3, .int (nI 0))]) ⟨rfl, rfl, rfl, rfl, trivial⟩ ?_
  exact c_Mo_seen_loop m70 m73 hnl nl 0 (by omega) rfl
set_option maxHeartbeats 2000000 in
theorem c_Mo_heaviest_loop {d K N n sg li nl ap ns dy : Nat} {tc : Int32} {C : Nat → va_E} {nr : Nat → Int32} (m70 : C (70) = .inr (5, [.int (tc), .ref (71), .int (nI sg), .int (nI li), .ref (72), .int (nI nl), .ref (73), .int (nI ap), .int (nI ns), .ref (74), .ref (75), .ref (76), .ref (77), .ref (78), .ref (79), .ref (80), .ref (81), .ref (82), .ref (83), .ref (84), .int (nI dy), .ref (85), .ref (86), .ref (87), .ref (88), .ref (89), .ref (90)])) (m73 : C (73) = .inl (0, 300, .inl nr)) (hnl : nl ≤ 60) {a b : Int32} {Q : gj_R → Prop} : ∀ (m : Nat) (k : Nat) (g : Int32), k + m = nl → Q (gj_iv (pl_hv nr a b m k g), n, C) → gj_G md_Mo_heaviest (d) K N 0 0 5 [(0, .ref (70)), (1, .int (a)), (2, .int (b)), (3, .int (g)), (4, .int (nI k))] [] (n) C Q := by
  intro m
  induction m with
  | zero =>
    intro k g hm hend
    refine gj_iload d_Mo_heaviest_5 rfl ?_
    refine gj_aload_n d_Mo_heaviest_7 rfl ?_
    refine gj_get d_Mo_heaviest_8 gf_Mo_26 m70 rfl ?_
    refine gj_icmp_ge (tgt := 76) d_Mo_heaviest_11 (by decide) (fun h11 => ?_) (fun h11 => by have m11 : ¬ (nl ≤ k) := fun q => h11 ((nI_leI (a := nl) (b := k) (by omega) (by omega)).mpr q); exact absurd (show nl ≤ k from by omega) m11)
    have m11 : nl ≤ k := (nI_leI (a := nl) (b := k) (by omega) (by omega)).mp h11
    refine gj_iload_n d_Mo_heaviest_76 rfl ?_
    refine gj_iret rfl (Nat.zero_le _) (Nat.zero_le _) d_Mo_heaviest_77 ?_
    exact hend
  | succ m ih =>
    intro k g hm hend
    refine gj_iload d_Mo_heaviest_5 rfl ?_
    refine gj_aload_n d_Mo_heaviest_7 rfl ?_
    refine gj_get d_Mo_heaviest_8 gf_Mo_26 m70 rfl ?_
    refine gj_icmp_ge (tgt := 76) d_Mo_heaviest_11 (by decide) (fun h11 => by have m11 : nl ≤ k := (nI_leI (a := nl) (b := k) (by omega) (by omega)).mp h11; exact absurd m11 (show ¬ (nl ≤ k) from by omega)) (fun h11 => ?_)
    have m11 : ¬ (nl ≤ k) := fun q => h11 ((nI_leI (a := nl) (b := k) (by omega) (by omega)).mpr q)
    refine gj_aload_n d_Mo_heaviest_14 rfl ?_
    refine gj_get d_Mo_heaviest_15 gf_Mo_29 m70 rfl ?_
    refine gj_kc (v := 5) d_Mo_heaviest_18 (by decide) ?_
    refine gj_iload d_Mo_heaviest_19 rfl ?_
    refine gj_imul d_Mo_heaviest_21 ?_
    refine gj_top (y := nI (5 * k)) (nI_mul (5) (k)) ?_
    refine gj_iald d_Mo_heaviest_22 m73 rfl (vp_in_nI (by omega) (by decide)) ?_
    refine gj_top (y := nr (5 * k)) (congrArg nr (nI_clamp (by omega))) ?_
    refine gj_kb (v := 82) d_Mo_heaviest_23 (by decide) ?_
    refine gj_icmp_ne (tgt := 70) d_Mo_heaviest_25 (by decide) (fun h25 => ?_) (fun h25 => ?_)
    · refine gj_iincN d_Mo_heaviest_70 rfl (by decide) ?_
      refine gj_goto (tgt := 5) d_Mo_heaviest_73 (by decide) ?_
      refine gj_less (lc' := [(0, .ref (70)), (1, .int (a)), (2, .int (b)), (3, .int (g)), (4, .int (nI (k + 1)))]) ⟨rfl, rfl, rfl, rfl, rfl, trivial⟩ ?_
      refine ih (k + 1) (g) (by omega) ?_
      have e : (if nr (5 * k) = 82 ∧ nr (5 * k + 1) = a ∧ nr (5 * k + 2) = b then nr (5 * k + 3) else g) = g := if_neg (fun q => by first | exact h25 q.1 | exact h40 q.2.1 | exact h55 q.2.2)
      rw [← e]; exact hend
    · refine gj_aload_n d_Mo_heaviest_28 rfl ?_
      refine gj_get d_Mo_heaviest_29 gf_Mo_29 m70 rfl ?_
      refine gj_kc (v := 5) d_Mo_heaviest_32 (by decide) ?_
      refine gj_iload d_Mo_heaviest_33 rfl ?_
      refine gj_imul d_Mo_heaviest_35 ?_
      refine gj_top (y := nI (5 * k)) (nI_mul (5) (k)) ?_
      refine gj_kc (v := 1) d_Mo_heaviest_36 (by decide) ?_
      refine gj_iadd d_Mo_heaviest_37 ?_
      refine gj_top (y := nI ((5 * k) + 1)) (nI_add (5 * k) (1)) ?_
      refine gj_iald d_Mo_heaviest_38 m73 rfl (vp_in_nI (by omega) (by decide)) ?_
      refine gj_top (y := nr ((5 * k) + 1)) (congrArg nr (nI_clamp (by omega))) ?_
      refine gj_iload_n d_Mo_heaviest_39 rfl ?_
      refine gj_icmp_ne (tgt := 70) d_Mo_heaviest_40 (by decide) (fun h40 => ?_) (fun h40 => ?_)
      · refine gj_iincN d_Mo_heaviest_70 rfl (by decide) ?_
        refine gj_goto (tgt := 5) d_Mo_heaviest_73 (by decide) ?_
        refine gj_less (lc' := [(0, .ref (70)), (1, .int (a)), (2, .int (b)), (3, .int (g)), (4, .int (nI (k + 1)))]) ⟨rfl, rfl, rfl, rfl, rfl, trivial⟩ ?_
        refine ih (k + 1) (g) (by omega) ?_
        have e : (if nr (5 * k) = 82 ∧ nr (5 * k + 1) = a ∧ nr (5 * k + 2) = b then nr (5 * k + 3) else g) = g := if_neg (fun q => by first | exact h25 q.1 | exact h40 q.2.1 | exact h55 q.2.2)
        rw [← e]; exact hend
      · refine gj_aload_n d_Mo_heaviest_43 rfl ?_
        refine gj_get d_Mo_heaviest_44 gf_Mo_29 m70 rfl ?_
        refine gj_kc (v := 5) d_Mo_heaviest_47 (by decide) ?_
        refine gj_iload d_Mo_heaviest_48 rfl ?_
        refine gj_imul d_Mo_heaviest_50 ?_
        refine gj_top (y := nI (5 * k)) (nI_mul (5) (k)) ?_
        refine gj_kc (v := 2) d_Mo_heaviest_51 (by decide) ?_
        refine gj_iadd d_Mo_heaviest_52 ?_
        refine gj_top (y := nI ((5 * k) + 2)) (nI_add (5 * k) (2)) ?_
        refine gj_iald d_Mo_heaviest_53 m73 rfl (vp_in_nI (by omega) (by decide)) ?_
        refine gj_top (y := nr ((5 * k) + 2)) (congrArg nr (nI_clamp (by omega))) ?_
        refine gj_iload_n d_Mo_heaviest_54 rfl ?_
        refine gj_icmp_ne (tgt := 70) d_Mo_heaviest_55 (by decide) (fun h55 => ?_) (fun h55 => ?_)
        · refine gj_iincN d_Mo_heaviest_70 rfl (by decide) ?_
          refine gj_goto (tgt := 5) d_Mo_heaviest_73 (by decide) ?_
          refine gj_less (lc' := [(0, .ref (70)), (1, .int (a)), (2, .int (b)), (3, .int (g)), (4, .int (nI (k + 1)))]) ⟨rfl, rfl, rfl, rfl, rfl, trivial⟩ ?_
          refine ih (k + 1) (g) (by omega) ?_
          have e : (if nr (5 * k) = 82 ∧ nr (5 * k + 1) = a ∧ nr (5 * k + 2) = b then nr (5 * k + 3) else g) = g := if_neg (fun q => by first | exact h25 q.1 | exact h40 q.2.1 | exact h55 q.2.2)
          rw [← e]; exact hend
        · refine gj_aload_n d_Mo_heaviest_58 rfl ?_
          refine gj_get d_Mo_heaviest_59 gf_Mo_29 m70 rfl ?_
          refine gj_kc (v := 5) d_Mo_heaviest_62 (by decide) ?_
          refine gj_iload d_Mo_heaviest_63 rfl ?_
          refine gj_imul d_Mo_heaviest_65 ?_
          refine gj_top (y := nI (5 * k)) (nI_mul (5) (k)) ?_
          refine gj_kc (v := 3) d_Mo_heaviest_66 (by decide) ?_
          refine gj_iadd d_Mo_heaviest_67 ?_
          refine gj_top (y := nI ((5 * k) + 3)) (nI_add (5 * k) (3)) ?_
          refine gj_iald d_Mo_heaviest_68 m73 rfl (vp_in_nI (by omega) (by decide)) ?_
          refine gj_top (y := nr ((5 * k) + 3)) (congrArg nr (nI_clamp (by omega))) ?_
          refine gj_istore_n d_Mo_heaviest_69 (by decide) ?_
          refine gj_iincN d_Mo_heaviest_70 rfl (by decide) ?_
          refine gj_goto (tgt := 5) d_Mo_heaviest_73 (by decide) ?_
          refine gj_less (lc' := [(0, .ref (70)), (1, .int (a)), (2, .int (b)), (3, .int (nr ((5 * k) + 3))), (4, .int (nI (k + 1)))]) ⟨rfl, rfl, rfl, rfl, rfl, trivial⟩ ?_
          refine ih (k + 1) (nr ((5 * k) + 3)) (by omega) ?_
          have e : (if nr (5 * k) = 82 ∧ nr (5 * k + 1) = a ∧ nr (5 * k + 2) = b then nr (5 * k + 3) else g) = nr ((5 * k) + 3) := if_pos ⟨h25, h40, h55⟩
          rw [← e]; exact hend
set_option maxHeartbeats 2000000 in
theorem c_Mo_heaviest {d K N n sg li nl ap ns dy : Nat} {tc : Int32} {C : Nat → va_E} {nr : Nat → Int32} (m70 : C (70) = .inr (5, [.int (tc), .ref (71), .int (nI sg), .int (nI li), .ref (72), .int (nI nl), .ref (73), .int (nI ap), .int (nI ns), .ref (74), .ref (75), .ref (76), .ref (77), .ref (78), .ref (79), .ref (80), .ref (81), .ref (82), .ref (83), .ref (84), .int (nI dy), .ref (85), .ref (86), .ref (87), .ref (88), .ref (89), .ref (90)])) (m73 : C (73) = .inl (0, 300, .inl nr)) (hnl : nl ≤ 60) {a b : Int32} : gj_G md_Mo_heaviest (d) K N 0 0 0 [(0, .ref (70)), (1, .int (a)), (2, .int (b))] [] (n) C (fun r => r = (gj_iv (pl_hv nr a b nl 0 0), n, C)) := by
  refine gj_kc (v := 0) d_Mo_heaviest_0 (by decide) ?_
  refine gj_istore_n d_Mo_heaviest_1 (by decide) ?_
  refine gj_kc (v := 0) d_Mo_heaviest_2 (by decide) ?_
  refine gj_istore d_Mo_heaviest_3 (by decide) ?_
  refine gj_less (lc' := [(0, .ref (70)), (1, .int (a)), (2, .int (b)), (3, .int (0)), (4, .int (nI 0))]) ⟨rfl, rfl, rfl, rfl, rfl, trivial⟩ ?_
  exact c_Mo_heaviest_loop m70 m73 hnl nl 0 0 (by omega) rfl
set_option maxHeartbeats 2000000 in
theorem c_Mo_find_loop {d K N n sg li nl ap ns dy : Nat} {tc : Int32} {C : Nat → va_E} {lr : Nat → Int32} (m70 : C (70) = .inr (5, [.int (tc), .ref (71), .int (nI sg), .int (nI li), .ref (72), .int (nI nl), .ref (73), .int (nI ap), .int (nI ns), .ref (74), .ref (75), .ref (76), .ref (77), .ref (78), .ref (79), .ref (80), .ref (81), .ref (82), .ref (83), .ref (84), .int (nI dy), .ref (85), .ref (86), .ref (87), .ref (88), .ref (89), .ref (90)])) (m72 : C (72) = .inl (0, 300, .inl lr)) (hli : li ≤ 60) {L a : Int32} {Q : gj_R → Prop} : ∀ (m : Nat) (k : Nat), k + m = li → Q (gj_iv (pl_c5 (pl_fd lr L a m k)), n, C) → gj_G md_Mo_find (d) K N 0 0 2 [(0, .ref (70)), (1, .int (L)), (2, .int (a)), (3, .int (nI k))] [] (n) C Q := by
  intro m
  induction m with
  | zero =>
    intro k hm hend
    refine gj_iload_n d_Mo_find_2 rfl ?_
    refine gj_aload_n d_Mo_find_3 rfl ?_
    refine gj_get d_Mo_find_4 gf_Mo_20 m70 rfl ?_
    refine gj_icmp_ge (tgt := 46) d_Mo_find_7 (by decide) (fun h7 => ?_) (fun h7 => by have m7 : ¬ (li ≤ k) := fun q => h7 ((nI_leI (a := li) (b := k) (by omega) (by omega)).mpr q); exact absurd (show li ≤ k from by omega) m7)
    have m7 : li ≤ k := (nI_leI (a := li) (b := k) (by omega) (by omega)).mp h7
    refine gj_kc (v := (-1)) d_Mo_find_46 (by decide) ?_
    refine gj_iret rfl (Nat.zero_le _) (Nat.zero_le _) d_Mo_find_47 ?_
    exact hend
  | succ m ih =>
    intro k hm hend
    refine gj_iload_n d_Mo_find_2 rfl ?_
    refine gj_aload_n d_Mo_find_3 rfl ?_
    refine gj_get d_Mo_find_4 gf_Mo_20 m70 rfl ?_
    refine gj_icmp_ge (tgt := 46) d_Mo_find_7 (by decide) (fun h7 => by have m7 : li ≤ k := (nI_leI (a := li) (b := k) (by omega) (by omega)).mp h7; exact absurd m7 (show ¬ (li ≤ k) from by omega)) (fun h7 => ?_)
    have m7 : ¬ (li ≤ k) := fun q => h7 ((nI_leI (a := li) (b := k) (by omega) (by omega)).mpr q)
    refine gj_aload_n d_Mo_find_10 rfl ?_
    refine gj_get d_Mo_find_11 gf_Mo_23 m70 rfl ?_
    refine gj_kc (v := 5) d_Mo_find_14 (by decide) ?_
    refine gj_iload_n d_Mo_find_15 rfl ?_
    refine gj_imul d_Mo_find_16 ?_
    refine gj_top (y := nI (5 * k)) (nI_mul (5) (k)) ?_
    refine gj_iald d_Mo_find_17 m72 rfl (vp_in_nI (by omega) (by decide)) ?_
    refine gj_top (y := lr (5 * k)) (congrArg lr (nI_clamp (by omega))) ?_
    refine gj_iload_n d_Mo_find_18 rfl ?_
    refine gj_icmp_ne (tgt := 40) d_Mo_find_19 (by decide) (fun h19 => ?_) (fun h19 => ?_)
    · refine gj_iincN d_Mo_find_40 rfl (by decide) ?_
      refine gj_goto (tgt := 2) d_Mo_find_43 (by decide) ?_
      refine gj_less (lc' := [(0, .ref (70)), (1, .int (L)), (2, .int (a)), (3, .int (nI (k + 1)))]) ⟨rfl, rfl, rfl, rfl, trivial⟩ ?_
      refine ih (k + 1) (by omega) ?_
      have e : pl_fd lr L a (m + 1) k = pl_fd lr L a m (k + 1) := if_neg (fun q => by first | exact h19 q.1 | exact h33 q.2)
      rw [e] at hend; exact hend
    · refine gj_aload_n d_Mo_find_22 rfl ?_
      refine gj_get d_Mo_find_23 gf_Mo_23 m70 rfl ?_
      refine gj_kc (v := 5) d_Mo_find_26 (by decide) ?_
      refine gj_iload_n d_Mo_find_27 rfl ?_
      refine gj_imul d_Mo_find_28 ?_
      refine gj_top (y := nI (5 * k)) (nI_mul (5) (k)) ?_
      refine gj_kc (v := 1) d_Mo_find_29 (by decide) ?_
      refine gj_iadd d_Mo_find_30 ?_
      refine gj_top (y := nI ((5 * k) + 1)) (nI_add (5 * k) (1)) ?_
      refine gj_iald d_Mo_find_31 m72 rfl (vp_in_nI (by omega) (by decide)) ?_
      refine gj_top (y := lr ((5 * k) + 1)) (congrArg lr (nI_clamp (by omega))) ?_
      refine gj_iload_n d_Mo_find_32 rfl ?_
      refine gj_icmp_ne (tgt := 40) d_Mo_find_33 (by decide) (fun h33 => ?_) (fun h33 => ?_)
      · refine gj_iincN d_Mo_find_40 rfl (by decide) ?_
        refine gj_goto (tgt := 2) d_Mo_find_43 (by decide) ?_
        refine gj_less (lc' := [(0, .ref (70)), (1, .int (L)), (2, .int (a)), (3, .int (nI (k + 1)))]) ⟨rfl, rfl, rfl, rfl, trivial⟩ ?_
        refine ih (k + 1) (by omega) ?_
        have e : pl_fd lr L a (m + 1) k = pl_fd lr L a m (k + 1) := if_neg (fun q => by first | exact h19 q.1 | exact h33 q.2)
        rw [e] at hend; exact hend
      · refine gj_kc (v := 5) d_Mo_find_36 (by decide) ?_
        refine gj_iload_n d_Mo_find_37 rfl ?_
        refine gj_imul d_Mo_find_38 ?_
        refine gj_top (y := nI (5 * k)) (nI_mul (5) (k)) ?_
        refine gj_iret rfl (Nat.zero_le _) (Nat.zero_le _) d_Mo_find_39 ?_
        have e : pl_fd lr L a (m + 1) k = some k := if_pos ⟨h19, h33⟩
        rw [e] at hend; exact hend
set_option maxHeartbeats 2000000 in
theorem c_Mo_find {d K N n sg li nl ap ns dy : Nat} {tc : Int32} {C : Nat → va_E} {lr : Nat → Int32} (m70 : C (70) = .inr (5, [.int (tc), .ref (71), .int (nI sg), .int (nI li), .ref (72), .int (nI nl), .ref (73), .int (nI ap), .int (nI ns), .ref (74), .ref (75), .ref (76), .ref (77), .ref (78), .ref (79), .ref (80), .ref (81), .ref (82), .ref (83), .ref (84), .int (nI dy), .ref (85), .ref (86), .ref (87), .ref (88), .ref (89), .ref (90)])) (m72 : C (72) = .inl (0, 300, .inl lr)) (hli : li ≤ 60) {L a : Int32} : gj_G md_Mo_find (d) K N 0 0 0 [(0, .ref (70)), (1, .int (L)), (2, .int (a))] [] (n) C (fun r => r = (gj_iv (pl_c5 (pl_fd lr L a li 0)), n, C)) := by
  refine gj_kc (v := 0) d_Mo_find_0 (by decide) ?_
  refine gj_istore_n d_Mo_find_1 (by decide) ?_
  refine gj_less (lc' := [(0, .ref (70)), (1, .int (L)), (2, .int (a)), (3, .int (nI 0))]) ⟨rfl, rfl, rfl, rfl, trivial⟩ ?_
  exact c_Mo_find_loop m70 m72 hli li 0 (by omega) rfl
set_option maxHeartbeats 2000000 in
theorem c_Mo_part {d K N n : Nat} {C : Nat → va_E} {v : Int64} {a b : Int32} (hb : ¬ b = 0) : gj_G md_Mo_part (d) K N 0 0 0 [(0, .long (v)), (2, .int (a)), (3, .int (b))] [] (n) C (fun r => r = (gj_iv (pr_up (v * a.toInt64) b.toInt64).toInt32, n, C)) := by
  refine gj_lload_n d_Mo_part_0 rfl ?_
  refine gj_iload_n d_Mo_part_1 rfl ?_
  refine gj_i2l d_Mo_part_2 ?_
  refine gj_lmul d_Mo_part_3 ?_
  refine gj_iload_n d_Mo_part_4 rfl ?_
  refine gj_i2l d_Mo_part_5 ?_
  refine gj_ladd d_Mo_part_6 ?_
  refine gj_kl (v := 1) d_Mo_part_7 (by decide) ?_
  refine gj_lsub d_Mo_part_8 ?_
  refine gj_iload_n d_Mo_part_9 rfl ?_
  refine gj_i2l d_Mo_part_10 ?_
  refine gj_ldiv d_Mo_part_11 (l64_ne0 hb) ?_
  refine gj_l2i d_Mo_part_12 ?_
  refine gj_iret rfl (Nat.zero_le _) (Nat.zero_le _) d_Mo_part_13 ?_
  exact rfl
set_option maxHeartbeats 2000000 in
theorem c_Mo_thrown {d K N n sg li nl ap ns dy : Nat} {tc : Int32} {C : Nat → va_E} (m70 : C (70) = .inr (5, [.int (tc), .ref (71), .int (nI sg), .int (nI li), .ref (72), .int (nI nl), .ref (73), .int (nI ap), .int (nI ns), .ref (74), .ref (75), .ref (76), .ref (77), .ref (78), .ref (79), .ref (80), .ref (81), .ref (82), .ref (83), .ref (84), .int (nI dy), .ref (85), .ref (86), .ref (87), .ref (88), .ref (89), .ref (90)])) : gj_G md_Mo_thrown (d) K N 0 0 0 [(0, .ref (70))] [] (n) C (fun r => r = (gj_iv tc, n, C)) := by
  refine gj_aload_n d_Mo_thrown_0 rfl ?_
  refine gj_get d_Mo_thrown_1 gf_Mo_7 m70 rfl ?_
  refine gj_iret rfl (Nat.zero_le _) (Nat.zero_le _) d_Mo_thrown_4 ?_
  exact rfl
set_option maxHeartbeats 2000000 in
theorem c_Mo_noShipment {d K N n sg li nl ap ns dy : Nat} {tc : Int32} {C : Nat → va_E} {go : Nat → Int32} (m70 : C (70) = .inr (5, [.int (tc), .ref (71), .int (nI sg), .int (nI li), .ref (72), .int (nI nl), .ref (73), .int (nI ap), .int (nI ns), .ref (74), .ref (75), .ref (76), .ref (77), .ref (78), .ref (79), .ref (80), .ref (81), .ref (82), .ref (83), .ref (84), .int (nI dy), .ref (85), .ref (86), .ref (87), .ref (88), .ref (89), .ref (90)])) (m74 : C (74) = .inl (2, 20, .inl go)) (hns : ns ≤ 20) {j : Nat} (hj : j < ns) (hg : go j = 0) : gj_G md_Mo_noShipment (d) K N 0 0 0 [(0, .ref (70)), (1, .int (nI j))] [] (n) C (fun r => r = (gj_iv 0, n, C)) := by
  refine gj_iload_n d_Mo_noShipment_0 rfl ?_
  refine gj_if_lt (tgt := 21) d_Mo_noShipment_1 (by decide) (fun h1 => by have m1 : j < 0 := (nI_ltI (a := j) (b := 0) (by omega) (by omega)).mp h1; exact absurd m1 (show ¬ (j < 0) from by omega)) (fun h1 => ?_)
  have m1 : ¬ (j < 0) := fun q => h1 ((nI_ltI (a := j) (b := 0) (by omega) (by omega)).mpr q)
  refine gj_iload_n d_Mo_noShipment_4 rfl ?_
  refine gj_aload_n d_Mo_noShipment_5 rfl ?_
  refine gj_get d_Mo_noShipment_6 gf_Mo_35 m70 rfl ?_
  refine gj_icmp_ge (tgt := 21) d_Mo_noShipment_9 (by decide) (fun h9 => by have m9 : ns ≤ j := (nI_leI (a := ns) (b := j) (by omega) (by omega)).mp h9; exact absurd m9 (show ¬ (ns ≤ j) from by omega)) (fun h9 => ?_)
  have m9 : ¬ (ns ≤ j) := fun q => h9 ((nI_leI (a := ns) (b := j) (by omega) (by omega)).mpr q)
  refine gj_aload_n d_Mo_noShipment_12 rfl ?_
  refine gj_get d_Mo_noShipment_13 gf_Mo_38 m70 rfl ?_
  refine gj_iload_n d_Mo_noShipment_16 rfl ?_
  refine gj_zald d_Mo_noShipment_17 m74 rfl (vp_in_nI (by omega) (by decide)) ?_
  refine gj_top (y := go (j)) (congrArg go (nI_clamp (by omega))) ?_
  refine gj_if_eq (tgt := 25) d_Mo_noShipment_18 (by decide) (fun h18 => ?_) (fun h18 => absurd (hg) h18)
  refine gj_kc (v := 0) d_Mo_noShipment_25 (by decide) ?_
  refine gj_zret rfl (by first | exact Or.inl rfl | exact Or.inr rfl) (Nat.zero_le _) (Nat.zero_le _) d_Mo_noShipment_26 ?_
  exact rfl
set_option maxHeartbeats 2000000 in
theorem c_Mo_noShipment1 {d K N n sg li nl ap ns dy : Nat} {tc : Int32} {C : Nat → va_E} {go : Nat → Int32} (m70 : C (70) = .inr (5, [.int (tc), .ref (71), .int (nI sg), .int (nI li), .ref (72), .int (nI nl), .ref (73), .int (nI ap), .int (nI ns), .ref (74), .ref (75), .ref (76), .ref (77), .ref (78), .ref (79), .ref (80), .ref (81), .ref (82), .ref (83), .ref (84), .int (nI dy), .ref (85), .ref (86), .ref (87), .ref (88), .ref (89), .ref (90)])) (m74 : C (74) = .inl (2, 20, .inl go)) (hns : ns ≤ 20) {s : Int32} (h : ¬ ∃ j, j < ns ∧ s = nI j ∧ go j = 0) : gj_G md_Mo_noShipment (d) K N 0 0 0 [(0, .ref (70)), (1, .int (s))] [] (n) C (fun r => r = (gj_iv 1, n, C)) := by
  refine gj_iload_n d_Mo_noShipment_0 rfl ?_
  refine gj_if_lt (tgt := 21) d_Mo_noShipment_1 (by decide) (fun h1 => ?_) (fun h1 => ?_)
  · refine gj_kc (v := 1) d_Mo_noShipment_21 (by decide) ?_
    refine gj_goto (tgt := 26) d_Mo_noShipment_22 (by decide) ?_
    refine gj_zret rfl (by first | exact Or.inl rfl | exact Or.inr rfl) (Nat.zero_le _) (Nat.zero_le _) d_Mo_noShipment_26 ?_
    exact rfl
  · obtain ⟨j, hj, e⟩ := nI_of h1
    subst e
    refine gj_iload_n d_Mo_noShipment_4 rfl ?_
    refine gj_aload_n d_Mo_noShipment_5 rfl ?_
    refine gj_get d_Mo_noShipment_6 gf_Mo_35 m70 rfl ?_
    refine gj_icmp_ge (tgt := 21) d_Mo_noShipment_9 (by decide) (fun h9 => ?_) (fun h9 => ?_)
    · have m9 : ns ≤ j := (nI_leI (a := ns) (b := j) (by omega) (by omega)).mp h9
      refine gj_kc (v := 1) d_Mo_noShipment_21 (by decide) ?_
      refine gj_goto (tgt := 26) d_Mo_noShipment_22 (by decide) ?_
      refine gj_zret rfl (by first | exact Or.inl rfl | exact Or.inr rfl) (Nat.zero_le _) (Nat.zero_le _) d_Mo_noShipment_26 ?_
      exact rfl
    · have m9 : ¬ (ns ≤ j) := fun q => h9 ((nI_leI (a := ns) (b := j) (by omega) (by omega)).mpr q)
      refine gj_aload_n d_Mo_noShipment_12 rfl ?_
      refine gj_get d_Mo_noShipment_13 gf_Mo_38 m70 rfl ?_
      refine gj_iload_n d_Mo_noShipment_16 rfl ?_
      refine gj_zald d_Mo_noShipment_17 m74 rfl (vp_in_nI (by omega) (by decide)) ?_
      refine gj_top (y := go (j)) (congrArg go (nI_clamp (by omega))) ?_
      refine gj_if_eq (tgt := 25) d_Mo_noShipment_18 (by decide) (fun h18 => ?_) (fun h18 => ?_)
      · exact absurd ⟨j, by omega, rfl, h18⟩ h
      · refine gj_kc (v := 1) d_Mo_noShipment_21 (by decide) ?_
        refine gj_goto (tgt := 26) d_Mo_noShipment_22 (by decide) ?_
        refine gj_zret rfl (by first | exact Or.inl rfl | exact Or.inr rfl) (Nat.zero_le _) (Nat.zero_le _) d_Mo_noShipment_26 ?_
        exact rfl
set_option maxHeartbeats 2000000 in
theorem c_Mo_booked_loop {d K N n sg li nl ap ns dy : Nat} {tc : Int32} {C : Nat → va_E} {go se : Nat → Int32} (m70 : C (70) = .inr (5, [.int (tc), .ref (71), .int (nI sg), .int (nI li), .ref (72), .int (nI nl), .ref (73), .int (nI ap), .int (nI ns), .ref (74), .ref (75), .ref (76), .ref (77), .ref (78), .ref (79), .ref (80), .ref (81), .ref (82), .ref (83), .ref (84), .int (nI dy), .ref (85), .ref (86), .ref (87), .ref (88), .ref (89), .ref (90)])) (m74 : C (74) = .inl (2, 20, .inl go)) (m78 : C (78) = .inl (0, 20, .inl se)) (hns : ns ≤ 20) {a : Int32} {Q : gj_R → Prop} : ∀ (m : Nat) (j : Nat) (t : Int32), j + m = ns → Q (gj_iv (pl_bk go se a m j t), n, C) → gj_G md_Mo_booked (d) K N 0 0 4 [(0, .ref (70)), (1, .int (a)), (2, .int (t)), (3, .int (nI j))] [] (n) C Q := by
  intro m
  induction m with
  | zero =>
    intro j t hm hend
    refine gj_iload_n d_Mo_booked_4 rfl ?_
    refine gj_aload_n d_Mo_booked_5 rfl ?_
    refine gj_get d_Mo_booked_6 gf_Mo_35 m70 rfl ?_
    refine gj_icmp_ge (tgt := 45) d_Mo_booked_9 (by decide) (fun h9 => ?_) (fun h9 => by have m9 : ¬ (ns ≤ j) := fun q => h9 ((nI_leI (a := ns) (b := j) (by omega) (by omega)).mpr q); exact absurd (show ns ≤ j from by omega) m9)
    have m9 : ns ≤ j := (nI_leI (a := ns) (b := j) (by omega) (by omega)).mp h9
    refine gj_iload_n d_Mo_booked_45 rfl ?_
    refine gj_iret rfl (Nat.zero_le _) (Nat.zero_le _) d_Mo_booked_46 ?_
    exact hend
  | succ m ih =>
    intro j t hm hend
    refine gj_iload_n d_Mo_booked_4 rfl ?_
    refine gj_aload_n d_Mo_booked_5 rfl ?_
    refine gj_get d_Mo_booked_6 gf_Mo_35 m70 rfl ?_
    refine gj_icmp_ge (tgt := 45) d_Mo_booked_9 (by decide) (fun h9 => by have m9 : ns ≤ j := (nI_leI (a := ns) (b := j) (by omega) (by omega)).mp h9; exact absurd m9 (show ¬ (ns ≤ j) from by omega)) (fun h9 => ?_)
    have m9 : ¬ (ns ≤ j) := fun q => h9 ((nI_leI (a := ns) (b := j) (by omega) (by omega)).mpr q)
    refine gj_iload_n d_Mo_booked_12 rfl ?_
    refine gj_aload_n d_Mo_booked_13 rfl ?_
    refine gj_get d_Mo_booked_14 gf_Mo_38 m70 rfl ?_
    refine gj_iload_n d_Mo_booked_17 rfl ?_
    refine gj_zald d_Mo_booked_18 m74 rfl (vp_in_nI (by omega) (by decide)) ?_
    refine gj_top (y := go (j)) (congrArg go (nI_clamp (by omega))) ?_
    refine gj_if_ne (tgt := 36) d_Mo_booked_19 (by decide) (fun h19 => ?_) (fun h19 => ?_)
    · refine gj_kc (v := 0) d_Mo_booked_36 (by decide) ?_
      refine gj_iadd d_Mo_booked_37 ?_
      refine gj_top (y := t) (Int32.add_zero t) ?_
      refine gj_istore_n d_Mo_booked_38 (by decide) ?_
      refine gj_iincN d_Mo_booked_39 rfl (by decide) ?_
      refine gj_goto (tgt := 4) d_Mo_booked_42 (by decide) ?_
      refine gj_less (lc' := [(0, .ref (70)), (1, .int (a)), (2, .int (t)), (3, .int (nI (j + 1)))]) ⟨rfl, rfl, rfl, rfl, trivial⟩ ?_
      refine gj_less (lc' := [(0, .ref (70)), (1, .int (a)), (2, .int (t)), (3, .int (nI (j + 1)))]) ⟨rfl, rfl, rfl, rfl, trivial⟩ ?_
      refine ih (j + 1) (t) (by omega) ?_
      have e : (if go j = 0 ∧ se j = a then t + 1 else t) = t := if_neg (fun q => by first | exact h19 q.1 | exact h29 q.2)
      rw [← e]; exact hend
    · refine gj_aload_n d_Mo_booked_22 rfl ?_
      refine gj_get d_Mo_booked_23 gf_Mo_51 m70 rfl ?_
      refine gj_iload_n d_Mo_booked_26 rfl ?_
      refine gj_iald d_Mo_booked_27 m78 rfl (vp_in_nI (by omega) (by decide)) ?_
      refine gj_top (y := se (j)) (congrArg se (nI_clamp (by omega))) ?_
      refine gj_iload_n d_Mo_booked_28 rfl ?_
      refine gj_icmp_ne (tgt := 36) d_Mo_booked_29 (by decide) (fun h29 => ?_) (fun h29 => ?_)
      · refine gj_kc (v := 0) d_Mo_booked_36 (by decide) ?_
        refine gj_iadd d_Mo_booked_37 ?_
        refine gj_top (y := t) (Int32.add_zero t) ?_
        refine gj_istore_n d_Mo_booked_38 (by decide) ?_
        refine gj_iincN d_Mo_booked_39 rfl (by decide) ?_
        refine gj_goto (tgt := 4) d_Mo_booked_42 (by decide) ?_
        refine gj_less (lc' := [(0, .ref (70)), (1, .int (a)), (2, .int (t)), (3, .int (nI (j + 1)))]) ⟨rfl, rfl, rfl, rfl, trivial⟩ ?_
        refine gj_less (lc' := [(0, .ref (70)), (1, .int (a)), (2, .int (t)), (3, .int (nI (j + 1)))]) ⟨rfl, rfl, rfl, rfl, trivial⟩ ?_
        refine ih (j + 1) (t) (by omega) ?_
        have e : (if go j = 0 ∧ se j = a then t + 1 else t) = t := if_neg (fun q => by first | exact h19 q.1 | exact h29 q.2)
        rw [← e]; exact hend
      · refine gj_kc (v := 1) d_Mo_booked_32 (by decide) ?_
        refine gj_goto (tgt := 37) d_Mo_booked_33 (by decide) ?_
        refine gj_iadd d_Mo_booked_37 ?_
        refine gj_istore_n d_Mo_booked_38 (by decide) ?_
        refine gj_iincN d_Mo_booked_39 rfl (by decide) ?_
        refine gj_goto (tgt := 4) d_Mo_booked_42 (by decide) ?_
        refine gj_less (lc' := [(0, .ref (70)), (1, .int (a)), (2, .int ((t) + (1))), (3, .int (nI (j + 1)))]) ⟨rfl, rfl, rfl, rfl, trivial⟩ ?_
        refine ih (j + 1) (t + 1) (by omega) ?_
        have e : (if go j = 0 ∧ se j = a then t + 1 else t) = t + 1 := if_pos ⟨h19, h29⟩
        rw [← e]; exact hend
set_option maxHeartbeats 2000000 in
theorem c_Mo_booked {d K N n sg li nl ap ns dy : Nat} {tc : Int32} {C : Nat → va_E} {go se : Nat → Int32} (m70 : C (70) = .inr (5, [.int (tc), .ref (71), .int (nI sg), .int (nI li), .ref (72), .int (nI nl), .ref (73), .int (nI ap), .int (nI ns), .ref (74), .ref (75), .ref (76), .ref (77), .ref (78), .ref (79), .ref (80), .ref (81), .ref (82), .ref (83), .ref (84), .int (nI dy), .ref (85), .ref (86), .ref (87), .ref (88), .ref (89), .ref (90)])) (m74 : C (74) = .inl (2, 20, .inl go)) (m78 : C (78) = .inl (0, 20, .inl se)) (hns : ns ≤ 20) {a : Int32} : gj_G md_Mo_booked (d) K N 0 0 0 [(0, .ref (70)), (1, .int (a))] [] (n) C (fun r => r = (gj_iv (pl_bk go se a ns 0 0), n, C)) := by
  refine gj_kc (v := 0) d_Mo_booked_0 (by decide) ?_
  refine gj_istore_n d_Mo_booked_1 (by decide) ?_
  refine gj_kc (v := 0) d_Mo_booked_2 (by decide) ?_
  refine gj_istore_n d_Mo_booked_3 (by decide) ?_
  refine gj_less (lc' := [(0, .ref (70)), (1, .int (a)), (2, .int (0)), (3, .int (nI 0))]) ⟨rfl, rfl, rfl, rfl, trivial⟩ ?_
  exact c_Mo_booked_loop m70 m74 m78 hns ns 0 0 (by omega) rfl
