/-! readInto: the class's reading, line by line -/
noncomputable def pt_rd (f : Nat → Int32) (ln : Nat) : Nat → Nat → Nat → (Nat → Int32) → pr_T → Option (pr_T × Nat) × Nat
  | 0, li, pl, _, T => if pl < ln then (none, pl) else (some (T, li), pl)
  | m + 1, li, pl, g, T => if pl < ln then (@ite _ (¬ pt_blv f ln pl g = -1 ∧ pr_ok (pt_at f ln pl) (pt_blg f ln pl g 0).toNatClampNeg (pt_blg f ln pl g 1) (pt_blg f ln pl g 2) (pt_blg f ln pl g 3) T) (Classical.propDecidable _)
      (pt_rd f ln m (li + 1) (pt_blv f ln pl g).toNatClampNeg (pt_blg f ln pl g) (pr_nx (pt_at f ln pl) (pt_blg f ln pl g 0).toNatClampNeg (pt_blg f ln pl g 1) (pt_blg f ln pl g 2) (pt_blg f ln pl g 3) T)) (none, pl))
    else (some (T, li), pl)
def pt_res (R : Option (pr_T × Nat) × Nat) (t : Nat) (C : Nat → va_E) (v : Int32) : Prop := match R with
  | (some (T, l), _) => v = -1 ∧ pr_M C t T (nI l)
  | (none, p) => v = nI p ∧ ∃ T l, pr_M C t T l
theorem pr_nx_sp (L : Int32) (j : Nat) (b c e : Int32) (T : pr_T) : (pr_nx L j b c e T).2.2.2.2.2.2.2.2 ≤ T.2.2.2.2.2.2.2.2 + 1 := by
  obtain ⟨la, ab, ut, ce, dv, mi, fu, fd, sp⟩ := T
  unfold pr_nx
  dsimp only
  split
  · exact Nat.le_refl _
  · split
    · exact Nat.le_succ _
    · split <;> exact Nat.le_succ _
set_option maxHeartbeats 2000000 in
theorem c_RB_readInto_loop {d K N n x q mk ln t : Nat} {f : Nat → Int32} (h6 : ln ≤ 600) (ht : 4 < t) {Q : gj_R → Prop} : ∀ (m : Nat) (li : Nat) (pl : Nat) (pp : Int32) (g : Nat → Int32) (T : pr_T) (C : Nat → va_E), li + m = 60 → pl ≤ 600 → C 1 = .inr (0, [.ref (2), .ref (x), .ref (q), .ref (23), .int (nI mk), .ref (24), .ref (65), .ref (66)]) → C 2 = .inr (1, [.ref (3), .ref (4), .int (nI ln), .int (pp)]) → C 3 = .inl (0, 600, .inl f) → C 4 = .inl (0, 4, .inl g) → pr_M C t T (nI li) → T.2.2.2.2.2.2.2.2 ≤ li → (∀ (C2 : Nat → va_E) (pp2 : Int32) (g2 : Nat → Int32) (v : Int32), C2 2 = .inr (1, [.ref 3, .ref 4, .int (nI ln), .int pp2]) → C2 4 = .inl (0, 4, .inl g2) → (∀ y, y ≠ 2 → y ≠ 4 → (y < t ∨ t + 8 < y) → C2 y = C y) → pt_res (pt_rd f ln m li pl g T) t C2 v → Q (gj_iv v, n, C2)) → gj_G md_RB_readInto (d + 4) K N 0 0 8 [(0, .ref (1)), (1, .ref (t)), (2, .int (nI pl)), (3, .int (nI li))] [] n C Q := by
  intro m
  induction m with
  | zero =>
    intro li pl pp g T C hm hpl o1 o2 o3 o4 hM hsp hend
    obtain ⟨la, ab, ut, ce, dv, mi, fu, fd, sp⟩ := T
    obtain ⟨k0, k1, k2, k3, k4, k5, k6, k7, k8⟩ := hM
    dsimp only at hsp k0 k1 k2 k3 k4 k5 k6 k7 k8
    refine gj_iload_n d_RB_readInto_8 rfl ?_
    refine gj_kb (v := 60) d_RB_readInto_9 (by decide) ?_
    refine gj_icmp_ge (tgt := 74) d_RB_readInto_11 (by decide) (fun h11 => ?_) (fun h11 => by have m11 : ¬ (60 ≤ li) := fun q => h11 ((nI_leI (a := 60) (b := li) (by omega) (by omega)).mpr q); exact absurd (show 60 ≤ li from by omega) m11)
    have m11 : 60 ≤ li := (nI_leI (a := 60) (b := li) (by omega) (by omega)).mp h11
    refine gj_iload_n d_RB_readInto_74 rfl ?_
    refine gj_aload_n d_RB_readInto_75 rfl ?_
    refine gj_get d_RB_readInto_76 gf_RB_10 o1 rfl ?_
    refine gj_get d_RB_readInto_79 gf_RB_57 o2 rfl ?_
    refine gj_icmp_ge (tgt := 89) d_RB_readInto_82 (by decide) (fun h82 => ?_) (fun h82 => ?_)
    · have m82 : ln ≤ pl := (nI_leI (a := ln) (b := pl) (by omega) (by omega)).mp h82
      refine gj_kc (v := (-1)) d_RB_readInto_89 (by decide) ?_
      refine gj_iret rfl (Nat.zero_le _) (Nat.zero_le _) d_RB_readInto_90 ?_
      exact hend C pp g (-1) o2 o4 (fun _ _ _ _ => rfl) (by rw [show pt_rd f ln 0 li pl g (la, ab, ut, ce, dv, mi, fu, fd, sp) = (some ((la, ab, ut, ce, dv, mi, fu, fd, sp), li), pl) from if_neg (by omega)]; exact ⟨rfl, k0, k1, k2, k3, k4, k5, k6, k7, k8⟩)
    · have m82 : ¬ (ln ≤ pl) := fun q => h82 ((nI_leI (a := ln) (b := pl) (by omega) (by omega)).mpr q)
      refine gj_iload_n d_RB_readInto_85 rfl ?_
      refine gj_goto (tgt := 90) d_RB_readInto_86 (by decide) ?_
      refine gj_iret rfl (Nat.zero_le _) (Nat.zero_le _) d_RB_readInto_90 ?_
      exact hend C pp g (nI pl) o2 o4 (fun _ _ _ _ => rfl) (by rw [show pt_rd f ln 0 li pl g (la, ab, ut, ce, dv, mi, fu, fd, sp) = (none, pl) from if_pos (by omega)]; exact ⟨rfl, (la, ab, ut, ce, dv, mi, fu, fd, sp), nI li, k0, k1, k2, k3, k4, k5, k6, k7, k8⟩)
  | succ m ih =>
    intro li pl pp g T C hm hpl o1 o2 o3 o4 hM hsp hend
    obtain ⟨la, ab, ut, ce, dv, mi, fu, fd, sp⟩ := T
    obtain ⟨k0, k1, k2, k3, k4, k5, k6, k7, k8⟩ := hM
    dsimp only at hsp k0 k1 k2 k3 k4 k5 k6 k7 k8
    refine gj_iload_n d_RB_readInto_8 rfl ?_
    refine gj_kb (v := 60) d_RB_readInto_9 (by decide) ?_
    refine gj_icmp_ge (tgt := 74) d_RB_readInto_11 (by decide) (fun h11 => by have m11 : 60 ≤ li := (nI_leI (a := 60) (b := li) (by omega) (by omega)).mp h11; exact absurd m11 (show ¬ (60 ≤ li) from by omega)) (fun h11 => ?_)
    have m11 : ¬ (60 ≤ li) := fun q => h11 ((nI_leI (a := 60) (b := li) (by omega) (by omega)).mpr q)
    refine gj_iload_n d_RB_readInto_14 rfl ?_
    refine gj_aload_n d_RB_readInto_15 rfl ?_
    refine gj_get d_RB_readInto_16 gf_RB_10 o1 rfl ?_
    refine gj_get d_RB_readInto_19 gf_RB_57 o2 rfl ?_
    refine gj_icmp_ge (tgt := 74) d_RB_readInto_22 (by decide) (fun h22 => ?_) (fun h22 => ?_)
    · have m22 : ln ≤ pl := (nI_leI (a := ln) (b := pl) (by omega) (by omega)).mp h22
      refine gj_iload_n d_RB_readInto_74 rfl ?_
      refine gj_aload_n d_RB_readInto_75 rfl ?_
      refine gj_get d_RB_readInto_76 gf_RB_10 o1 rfl ?_
      refine gj_get d_RB_readInto_79 gf_RB_57 o2 rfl ?_
      refine gj_icmp_ge (tgt := 89) d_RB_readInto_82 (by decide) (fun h82 => ?_) (fun h82 => by have m82 : ¬ (ln ≤ pl) := fun q => h82 ((nI_leI (a := ln) (b := pl) (by omega) (by omega)).mpr q); exact absurd (show ln ≤ pl from by omega) m82)
      have m82 : ln ≤ pl := (nI_leI (a := ln) (b := pl) (by omega) (by omega)).mp h82
      refine gj_kc (v := (-1)) d_RB_readInto_89 (by decide) ?_
      refine gj_iret rfl (Nat.zero_le _) (Nat.zero_le _) d_RB_readInto_90 ?_
      exact hend C pp g (-1) o2 o4 (fun _ _ _ _ => rfl) (by rw [show pt_rd f ln (m + 1) li pl g (la, ab, ut, ce, dv, mi, fu, fd, sp) = (some ((la, ab, ut, ce, dv, mi, fu, fd, sp), li), pl) from if_neg (by omega)]; exact ⟨rfl, k0, k1, k2, k3, k4, k5, k6, k7, k8⟩)
    · have m22 : ¬ (ln ≤ pl) := fun q => h22 ((nI_leI (a := ln) (b := pl) (by omega) (by omega)).mpr q)
      refine gj_aload_n d_RB_readInto_25 rfl ?_
      refine gj_get d_RB_readInto_26 gf_RB_10 o1 rfl ?_
      refine gj_iload_n d_RB_readInto_29 rfl ?_
      refine gj_callV (as := [.int (nI pl)]) (rest := []) (K1 := 0) (N1 := 0) d_RB_readInto_30 mo_Tx_behindLine gw_170 gw_171 gw_172 o2 rfl pl_Tx_behindLine (Nat.le_of_ble_eq_true rfl) (Nat.le_of_ble_eq_true rfl) (Nat.zero_le _) (Nat.zero_le _) (c_Tx_behindLine (x := 2) o2 o3 o4 h6 (by omega)) (fun E n' C' _ h => by obtain ⟨hv, -⟩ := h; exact nomatch hv) (fun v1 n1 C1 _ h1 => ?_)
      obtain ⟨hv1, hn1, u1_0, u1_1, hr1⟩ := h1
      dsimp only [gj_iv, gj_vv, gj_lv2] at hv1 hn1 hr1 u1_0 u1_1
      cases hv1; cases hn1
      have f2 : C1 (1) = .inr (0, [.ref (2), .ref (x), .ref (q), .ref (23), .int (nI mk), .ref (24), .ref (65), .ref (66)]) := (hr1 _ (by omega) (by omega)).trans o1
      have f3 : C1 (3) = .inl (0, 600, .inl f) := (hr1 _ (by omega) (by omega)).trans o3
      have f4 : C1 (t) = .inr (2, [.ref (t + 1), .ref (t + 2), .ref (t + 3), .ref (t + 4), .ref (t + 5), .ref (t + 6), .ref (t + 7), .ref (t + 8), .int (nI li), .int (nI sp)]) := (hr1 _ (by omega) (by omega)).trans k0
      have f5 : C1 (t + 1) = .inl (0, 60, .inl la) := (hr1 _ (by omega) (by omega)).trans k1
      have f6 : C1 (t + 2) = .inl (0, 60, .inl ab) := (hr1 _ (by omega) (by omega)).trans k2
      have f7 : C1 (t + 3) = .inl (0, 60, .inl ut) := (hr1 _ (by omega) (by omega)).trans k3
      have f8 : C1 (t + 4) = .inl (0, 60, .inl ce) := (hr1 _ (by omega) (by omega)).trans k4
      have f9 : C1 (t + 5) = .inl (0, 10, .inl dv) := (hr1 _ (by omega) (by omega)).trans k5
      have f10 : C1 (t + 6) = .inl (0, 10, .inl mi) := (hr1 _ (by omega) (by omega)).trans k6
      have f11 : C1 (t + 7) = .inl (0, 10, .inl fu) := (hr1 _ (by omega) (by omega)).trans k7
      have f12 : C1 (t + 8) = .inl (0, 10, .inl fd) := (hr1 _ (by omega) (by omega)).trans k8
      rcases hbc : pt_blv_cases f ln pl g with hb | ⟨p2, hp2, hb⟩
      · refine gj_top hb ?_
        refine gj_istore d_RB_readInto_33 (by decide) ?_
        refine gj_iload d_RB_readInto_35 rfl ?_
        refine gj_kc (v := (-1)) d_RB_readInto_37 (by decide) ?_
        refine gj_icmp_eq (tgt := 63) d_RB_readInto_38 (by decide) (fun h38 => ?_) (fun h38 => absurd (rfl) h38)
        refine gj_iload_n d_RB_readInto_63 rfl ?_
        refine gj_iret rfl (Nat.zero_le _) (Nat.zero_le _) d_RB_readInto_64 ?_
        have e : pt_rd f ln (m + 1) li pl g (la, ab, ut, ce, dv, mi, fu, fd, sp) = (none, pl) := (if_pos (by omega)).trans (if_neg (fun z => z.1 hb))
        exact hend C1 _ _ _ u1_0 u1_1 (fun y a1 a2 _ => hr1 y a1 a2) (by rw [e]; exact ⟨rfl, (la, ab, ut, ce, dv, mi, fu, fd, sp), nI li, f4, f5, f6, f7, f8, f9, f10, f11, f12⟩)
      · have hbn : ¬ pt_blv f ln pl g = -1 := by rw [hb]; exact nI_m1 (by omega)
        obtain ⟨j, hjb, hj⟩ := pt_blg_nat hbn
        refine gj_top hb ?_
        refine gj_istore d_RB_readInto_33 (by decide) ?_
        refine gj_iload d_RB_readInto_35 rfl ?_
        refine gj_kc (v := (-1)) d_RB_readInto_37 (by decide) ?_
        refine gj_icmp_eq (tgt := 63) d_RB_readInto_38 (by decide) (fun h38 => absurd h38 (nI_m1 (by omega))) (fun h38 => ?_)
        refine gj_aload_n d_RB_readInto_41 rfl ?_
        refine gj_aload_n d_RB_readInto_42 rfl ?_
        refine gj_get d_RB_readInto_43 gf_RB_10 f2 rfl ?_
        refine gj_iload_n d_RB_readInto_46 rfl ?_
        refine gj_callV (as := [.int (nI pl)]) (rest := [.ref (t)]) (K1 := 0) (N1 := 0) d_RB_readInto_47 mo_Tx_at gw_188 gw_175 gw_176 u1_0 rfl pl_Tx_at (Nat.le_of_ble_eq_true rfl) (Nat.le_of_ble_eq_true rfl) (Nat.zero_le _) (Nat.zero_le _) (c_Tx_at (x := 2) u1_0 f3 h6 pl (by omega)) (fun E n' C' _ h => by cases h) (fun v n' C' _ h => ?_)
        cases h
        refine gj_aload_n d_RB_readInto_50 rfl ?_
        refine gj_get d_RB_readInto_51 gf_RB_10 f2 rfl ?_
        refine gj_get d_RB_readInto_54 gf_RB_214 u1_0 rfl ?_
        refine gj_callV (as := [.int (pt_at f ln pl), .ref (4)]) (rest := []) (K1 := 0) (N1 := 0) d_RB_readInto_57 mo_Ra_take gw_189 gw_190 gw_191 f4 rfl pl_Ra_take (Nat.le_of_ble_eq_true rfl) (Nat.le_of_ble_eq_true rfl) (Nat.zero_le _) (Nat.zero_le _) (c_Ra_take (y := 4) f4 f5 f6 f7 f8 f9 f10 f11 f12 u1_1 (Or.inl (by omega)) (by omega) hj hjb) (fun E n2 C2 _ h => ?_) (fun v n2 C2 _ h => ?_)
        · obtain ⟨-, -, h | h⟩ := h
          · exact nomatch h.2.1
          · exact nomatch h.2.1
        obtain ⟨hn, hfr, h | h⟩ := h
        · obtain ⟨h0, hv, hM⟩ := h
          dsimp only [gj_iv] at hv hn
          cases hv; cases hn
          have z1 : C2 1 = .inr (0, [.ref (2), .ref (x), .ref (q), .ref (23), .int (nI mk), .ref (24), .ref (65), .ref (66)]) := (hfr _ (Or.inl (by omega))).trans f2
          have z2 : C2 2 = .inr (1, [.ref (3), .ref (4), .int (nI ln), .int (pt_blp f ln pl g pp)]) := (hfr _ (Or.inl (by omega))).trans u1_0
          have z3 : C2 3 = .inl (0, 600, .inl f) := (hfr _ (Or.inl (by omega))).trans f3
          have z4 : C2 4 = .inl (0, 4, .inl (pt_blg f ln pl g)) := (hfr _ (Or.inl (by omega))).trans u1_1
          have zf : ∀ y, y ≠ 2 → y ≠ 4 → (y < t ∨ t + 8 < y) → C2 y = C y := fun y g1 g2 g3 => (hfr y g3).trans (hr1 y g1 g2)
          refine gj_if_ne (tgt := 65) d_RB_readInto_60 (by decide) (fun h60 => ?_) (fun h60 => absurd h60 (by decide))
          refine gj_iload d_RB_readInto_65 rfl ?_
          refine gj_istore_n d_RB_readInto_67 (by decide) ?_
          refine gj_iincN d_RB_readInto_68 rfl (by decide) ?_
          refine gj_goto (tgt := 8) d_RB_readInto_71 (by decide) ?_
          refine gj_less (lc' := [(0, .ref (1)), (1, .ref (t)), (2, .int (nI (p2 + 1))), (3, .int (nI (li + 1)))]) ⟨rfl, rfl, rfl, rfl, trivial⟩ ?_
          have ecl : ((pt_blg f ln pl g) 0).toNatClampNeg = j := by rw [hj]; exact nI_clamp hjb
          have e : pt_rd f ln (m + 1) li pl g (la, ab, ut, ce, dv, mi, fu, fd, sp) = pt_rd f ln m (li + 1) (p2 + 1) (pt_blg f ln pl g) (pr_nx (pt_at f ln pl) j ((pt_blg f ln pl g) 1) ((pt_blg f ln pl g) 2) ((pt_blg f ln pl g) 3) (la, ab, ut, ce, dv, mi, fu, fd, sp)) := by
            refine (if_pos (by omega)).trans ((if_pos ⟨hbn, by rw [ecl]; exact h0⟩).trans ?_)
            rw [ecl, hb, nI_clamp (by omega)]
          have hsp2 := pr_nx_sp (pt_at f ln pl) j ((pt_blg f ln pl g) 1) ((pt_blg f ln pl g) 2) ((pt_blg f ln pl g) 3) (la, ab, ut, ce, dv, mi, fu, fd, sp)
          dsimp only at hsp2 hsp
          refine ih (li + 1) (p2 + 1) _ (pt_blg f ln pl g) (pr_nx (pt_at f ln pl) j ((pt_blg f ln pl g) 1) ((pt_blg f ln pl g) 2) ((pt_blg f ln pl g) 3) (la, ab, ut, ce, dv, mi, fu, fd, sp)) C2 (by omega) (by omega) z1 z2 z3 z4 hM (by omega) (fun C3 pp3 g3 v3 e1 e2 e3 e4 => hend C3 pp3 g3 v3 e1 e2 (fun y a1 a2 a3 => (e3 y a1 a2 a3).trans (zf y a1 a2 a3)) (by rw [e]; exact e4))
        · obtain ⟨h0, hv, T2, l2, hM⟩ := h
          dsimp only [gj_iv] at hv hn
          cases hv; cases hn
          have z1 : C2 1 = .inr (0, [.ref (2), .ref (x), .ref (q), .ref (23), .int (nI mk), .ref (24), .ref (65), .ref (66)]) := (hfr _ (Or.inl (by omega))).trans f2
          have z2 : C2 2 = .inr (1, [.ref (3), .ref (4), .int (nI ln), .int (pt_blp f ln pl g pp)]) := (hfr _ (Or.inl (by omega))).trans u1_0
          have z3 : C2 3 = .inl (0, 600, .inl f) := (hfr _ (Or.inl (by omega))).trans f3
          have z4 : C2 4 = .inl (0, 4, .inl (pt_blg f ln pl g)) := (hfr _ (Or.inl (by omega))).trans u1_1
          have zf : ∀ y, y ≠ 2 → y ≠ 4 → (y < t ∨ t + 8 < y) → C2 y = C y := fun y g1 g2 g3 => (hfr y g3).trans (hr1 y g1 g2)
          refine gj_if_ne (tgt := 65) d_RB_readInto_60 (by decide) (fun h60 => absurd (rfl) h60) (fun h60 => ?_)
          refine gj_iload_n d_RB_readInto_63 rfl ?_
          refine gj_iret rfl (Nat.zero_le _) (Nat.zero_le _) d_RB_readInto_64 ?_
          have ecl : ((pt_blg f ln pl g) 0).toNatClampNeg = j := by rw [hj]; exact nI_clamp hjb
          have e : pt_rd f ln (m + 1) li pl g (la, ab, ut, ce, dv, mi, fu, fd, sp) = (none, pl) := (if_pos (by omega)).trans (if_neg (fun z => h0 (by have z2 := z.2; rw [ecl] at z2; exact z2)))
          exact hend C2 _ _ _ z2 z4 zf (by rw [e]; exact ⟨rfl, T2, l2, hM⟩)
set_option maxHeartbeats 2000000 in
theorem c_RB_readInto {d K N n x q mk ln t sp : Nat} {C : Nat → va_E} {f g la ab ut ce dv mi fu fd : Nat → Int32} {pp li : Int32} (o1 : C (1) = .inr (0, [.ref (2), .ref (x), .ref (q), .ref (23), .int (nI mk), .ref (24), .ref (65), .ref (66)])) (o2 : C (2) = .inr (1, [.ref (3), .ref (4), .int (nI ln), .int (pp)])) (o3 : C (3) = .inl (0, 600, .inl f)) (o4 : C (4) = .inl (0, 4, .inl g)) (k0 : C (t) = .inr (2, [.ref (t + 1), .ref (t + 2), .ref (t + 3), .ref (t + 4), .ref (t + 5), .ref (t + 6), .ref (t + 7), .ref (t + 8), .int (li), .int (nI sp)])) (k1 : C (t + 1) = .inl (0, 60, .inl la)) (k2 : C (t + 2) = .inl (0, 60, .inl ab)) (k3 : C (t + 3) = .inl (0, 60, .inl ut)) (k4 : C (t + 4) = .inl (0, 60, .inl ce)) (k5 : C (t + 5) = .inl (0, 10, .inl dv)) (k6 : C (t + 6) = .inl (0, 10, .inl mi)) (k7 : C (t + 7) = .inl (0, 10, .inl fu)) (k8 : C (t + 8) = .inl (0, 10, .inl fd)) (h6 : ln ≤ 600) (ht : 4 < t) : gj_G md_RB_readInto (d + 4) K N 0 0 0 [(0, .ref (1)), (1, .ref (t))] [] n C (fun r => ∃ v, r.1 = gj_iv v ∧ r.2.1 = n ∧ pt_res (pt_rd f ln 60 0 0 g (la, ab, ut, ce, pr_clr dv 10, pr_clr mi 10, pr_clr fu 10, pr_clr fd 10, 0)) t r.2.2 v ∧ ∃ pp2 g2, r.2.2 2 = .inr (1, [.ref 3, .ref 4, .int (nI ln), .int pp2]) ∧ r.2.2 4 = .inl (0, 4, .inl g2) ∧ ∀ y, y ≠ 2 → y ≠ 4 → (y < t ∨ t + 8 < y) → r.2.2 y = C y) := by
  refine gj_aload_n d_RB_readInto_0 rfl ?_
  refine gj_callV (as := []) (rest := []) (K1 := 0) (N1 := 0) d_RB_readInto_1 mo_Ra_clear gw_169 gw_72 gw_73 k0 rfl pl_Ra_clear (Nat.le_of_ble_eq_true rfl) (Nat.le_of_ble_eq_true rfl) (Nat.zero_le _) (Nat.zero_le _) (c_Ra_clear k0 k5 k6 k7 k8) (fun E n' C' _ h => by obtain ⟨hv, -⟩ := h; exact nomatch hv) (fun v1 n1 C1 _ h1 => ?_)
  obtain ⟨hv1, hn1, u1_0, u1_1, u1_2, u1_3, u1_4, hr1⟩ := h1
  dsimp only [gj_iv, gj_vv, gj_lv2] at hv1 hn1 hr1 u1_0 u1_1 u1_2 u1_3 u1_4
  cases hv1; cases hn1
  have f2 : C1 (1) = .inr (0, [.ref (2), .ref (x), .ref (q), .ref (23), .int (nI mk), .ref (24), .ref (65), .ref (66)]) := (hr1 _ (by omega) (by omega) (by omega) (by omega) (by omega)).trans o1
  have f3 : C1 (2) = .inr (1, [.ref (3), .ref (4), .int (nI ln), .int (pp)]) := (hr1 _ (by omega) (by omega) (by omega) (by omega) (by omega)).trans o2
  have f4 : C1 (3) = .inl (0, 600, .inl f) := (hr1 _ (by omega) (by omega) (by omega) (by omega) (by omega)).trans o3
  have f5 : C1 (4) = .inl (0, 4, .inl g) := (hr1 _ (by omega) (by omega) (by omega) (by omega) (by omega)).trans o4
  have f6 : C1 (t + 1) = .inl (0, 60, .inl la) := (hr1 _ (by omega) (by omega) (by omega) (by omega) (by omega)).trans k1
  have f7 : C1 (t + 2) = .inl (0, 60, .inl ab) := (hr1 _ (by omega) (by omega) (by omega) (by omega) (by omega)).trans k2
  have f8 : C1 (t + 3) = .inl (0, 60, .inl ut) := (hr1 _ (by omega) (by omega) (by omega) (by omega) (by omega)).trans k3
  have f9 : C1 (t + 4) = .inl (0, 60, .inl ce) := (hr1 _ (by omega) (by omega) (by omega) (by omega) (by omega)).trans k4
  refine gj_kc (v := 0) d_RB_readInto_4 (by decide) ?_
  refine gj_istore_n d_RB_readInto_5 (by decide) ?_
  refine gj_kc (v := 0) d_RB_readInto_6 (by decide) ?_
  refine gj_istore_n d_RB_readInto_7 (by decide) ?_
  refine gj_less (lc' := [(0, .ref (1)), (1, .ref (t)), (2, .int (nI 0)), (3, .int (nI 0))]) ⟨rfl, rfl, rfl, rfl, trivial⟩ ?_
  refine c_RB_readInto_loop h6 ht 60 0 0 pp g (la, ab, ut, ce, pr_clr dv 10, pr_clr mi 10, pr_clr fu 10, pr_clr fd 10, 0) C1 (by omega) (by omega) f2 f3 f4 f5 ⟨u1_0, f6, f7, f8, f9, u1_1, u1_2, u1_3, u1_4⟩ (Nat.le_refl 0) (fun C2 pp2 g2 v e1 e2 e3 e4 => ⟨v, rfl, rfl, e4, pp2, g2, e1, e2, fun y a1 a2 a3 => (e3 y a1 a2 a3).trans (hr1 y (by omega) (by omega) (by omega) (by omega) (by omega))⟩)
