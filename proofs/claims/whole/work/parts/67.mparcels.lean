/-! RateBreaksModel: count, parcels, the constructor -/
set_option maxHeartbeats 2000000 in
theorem c_Mo_count_loop {d K N n sg li nl ap ns dy : Nat} {tc : Int32} {C : Nat → va_E} {go se pr le : Nat → Int32} (m70 : C (70) = .inr (5, [.int (tc), .ref (71), .int (nI sg), .int (nI li), .ref (72), .int (nI nl), .ref (73), .int (nI ap), .int (nI ns), .ref (74), .ref (75), .ref (76), .ref (77), .ref (78), .ref (79), .ref (80), .ref (81), .ref (82), .ref (83), .ref (84), .int (nI dy), .ref (85), .ref (86), .ref (87), .ref (88), .ref (89), .ref (90)])) (m74 : C (74) = .inl (2, 20, .inl go)) (m78 : C (78) = .inl (0, 20, .inl se)) (m79 : C (79) = .inl (0, 20, .inl pr)) (m80 : C (80) = .inl (0, 20, .inl le)) (hns : ns ≤ 20) {w : Int32} {Q : gj_R → Prop} : ∀ (m : Nat) (s : Nat) (t1 : Int32) (t2 : Int32) (t3 : Int32) (t4 : Int32), s + m = ns → Q (gj_iv (pm_cn sg li (pm_it (pm_a1 go) m s t1) (pm_it (pm_a2 go se) m s t2) (pm_it (pm_a3 go se pr) m s t3) (pm_it (pm_a4 go le) m s t4) w), n, C) → gj_G md_Mo_count (d) K N 0 0 18 [(0, .ref (70)), (1, .int (w)), (2, .int (t1)), (3, .int (t2)), (4, .int (t3)), (5, .int (t4)), (6, .int (nI s))] [] (n) C Q := by
  intro m
  induction m with
  | zero =>
    intro s t1 t2 t3 t4 hm hend
    refine gj_iload d_Mo_count_18 rfl ?_
    refine gj_aload_n d_Mo_count_20 rfl ?_
    refine gj_get d_Mo_count_21 gf_Mo_35 m70 rfl ?_
    refine gj_icmp_ge (tgt := 151) d_Mo_count_24 (by decide) (fun h24 => ?_) (fun h24 => by have m24 : ¬ (ns ≤ s) := fun q => h24 ((nI_leI (a := ns) (b := s) (by omega) (by omega)).mpr q); exact absurd (show ns ≤ s from by omega) m24)
    have m24 : ns ≤ s := (nI_leI (a := ns) (b := s) (by omega) (by omega)).mp h24
    refine gj_iload_n d_Mo_count_151 rfl ?_
    -- switch
    by_cases s152_0 : w = 0
    · refine gj_tableIn (off := 40) (tgt := 192) d_Mo_count_152 (by rw [s152_0]; decide) (by rw [s152_0]; decide) (by rw [s152_0]; decide) (by decide) ?_
      refine gj_aload_n d_Mo_count_192 rfl ?_
      refine gj_get d_Mo_count_193 gf_Mo_17 m70 rfl ?_
      refine gj_iret rfl (Nat.zero_le _) (Nat.zero_le _) d_Mo_count_196 ?_
      subst s152_0
      exact hend
    · by_cases s152_1 : w = 1
      · refine gj_tableIn (off := 45) (tgt := 197) d_Mo_count_152 (by rw [s152_1]; decide) (by rw [s152_1]; decide) (by rw [s152_1]; decide) (by decide) ?_
        refine gj_aload_n d_Mo_count_197 rfl ?_
        refine gj_get d_Mo_count_198 gf_Mo_20 m70 rfl ?_
        refine gj_iret rfl (Nat.zero_le _) (Nat.zero_le _) d_Mo_count_201 ?_
        subst s152_1
        exact hend
      · by_cases s152_2 : w = 2
        · refine gj_tableIn (off := 50) (tgt := 202) d_Mo_count_152 (by rw [s152_2]; decide) (by rw [s152_2]; decide) (by rw [s152_2]; decide) (by decide) ?_
          refine gj_iload_n d_Mo_count_202 rfl ?_
          refine gj_iret rfl (Nat.zero_le _) (Nat.zero_le _) d_Mo_count_203 ?_
          subst s152_2
          exact hend
        · by_cases s152_3 : w = 3
          · refine gj_tableIn (off := 52) (tgt := 204) d_Mo_count_152 (by rw [s152_3]; decide) (by rw [s152_3]; decide) (by rw [s152_3]; decide) (by decide) ?_
            refine gj_iload_n d_Mo_count_204 rfl ?_
            refine gj_iret rfl (Nat.zero_le _) (Nat.zero_le _) d_Mo_count_205 ?_
            subst s152_3
            exact hend
          · by_cases s152_4 : w = 4
            · refine gj_tableIn (off := 54) (tgt := 206) d_Mo_count_152 (by rw [s152_4]; decide) (by rw [s152_4]; decide) (by rw [s152_4]; decide) (by decide) ?_
              refine gj_iload d_Mo_count_206 rfl ?_
              refine gj_iret rfl (Nat.zero_le _) (Nat.zero_le _) d_Mo_count_208 ?_
              subst s152_4
              exact hend
            · by_cases s152_5 : w = 5
              · refine gj_tableIn (off := 57) (tgt := 209) d_Mo_count_152 (by rw [s152_5]; decide) (by rw [s152_5]; decide) (by rw [s152_5]; decide) (by decide) ?_
                refine gj_iload d_Mo_count_209 rfl ?_
                refine gj_iret rfl (Nat.zero_le _) (Nat.zero_le _) d_Mo_count_211 ?_
                subst s152_5
                exact hend
              · have a152_0 : ¬ (w : Int32).toInt = 0 := fun h => s152_0 (Int32.toInt_inj.mp (h.trans (by decide)))
                have a152_1 : ¬ (w : Int32).toInt = 1 := fun h => s152_1 (Int32.toInt_inj.mp (h.trans (by decide)))
                have a152_2 : ¬ (w : Int32).toInt = 2 := fun h => s152_2 (Int32.toInt_inj.mp (h.trans (by decide)))
                have a152_3 : ¬ (w : Int32).toInt = 3 := fun h => s152_3 (Int32.toInt_inj.mp (h.trans (by decide)))
                have a152_4 : ¬ (w : Int32).toInt = 4 := fun h => s152_4 (Int32.toInt_inj.mp (h.trans (by decide)))
                have a152_5 : ¬ (w : Int32).toInt = 5 := fun h => s152_5 (Int32.toInt_inj.mp (h.trans (by decide)))
                refine gj_tableOut (tgt := 212) d_Mo_count_152 (by omega) (by decide) ?_
                refine gj_kc (v := (-1)) d_Mo_count_212 (by decide) ?_
                refine gj_iret rfl (Nat.zero_le _) (Nat.zero_le _) d_Mo_count_213 ?_
                have e : pm_cn sg li t1 t2 t3 t4 w = -1 := by unfold pm_cn; rw [if_neg s152_0, if_neg s152_1, if_neg s152_2, if_neg s152_3, if_neg s152_4, if_neg s152_5]
                have h2 : Q (gj_iv (pm_cn sg li t1 t2 t3 t4 w), n, C) := hend
                rw [e] at h2; exact h2
  | succ m ih =>
    intro s t1 t2 t3 t4 hm hend
    by_cases q1 : go s = 0
    · by_cases q2 : 0 ≤ se s
      · by_cases q3 : 0 ≤ le s
        · refine gj_iload d_Mo_count_18 rfl ?_
          refine gj_aload_n d_Mo_count_20 rfl ?_
          refine gj_get d_Mo_count_21 gf_Mo_35 m70 rfl ?_
          refine gj_icmp_ge (tgt := 151) d_Mo_count_24 (by decide) (fun h24 => by have m24 : ns ≤ s := (nI_leI (a := ns) (b := s) (by omega) (by omega)).mp h24; exact absurd m24 (show ¬ (ns ≤ s) from by omega)) (fun h24 => ?_)
          have m24 : ¬ (ns ≤ s) := fun q => h24 ((nI_leI (a := ns) (b := s) (by omega) (by omega)).mpr q)
          refine gj_iload_n d_Mo_count_27 rfl ?_
          refine gj_aload_n d_Mo_count_28 rfl ?_
          refine gj_get d_Mo_count_29 gf_Mo_38 m70 rfl ?_
          refine gj_iload d_Mo_count_32 rfl ?_
          refine gj_zald d_Mo_count_34 m74 rfl (vp_in_nI (by omega) (by decide)) ?_
          refine gj_top (y := go (s)) (congrArg go (nI_clamp (by omega))) ?_
          refine gj_if_eq (tgt := 42) d_Mo_count_35 (by decide) (fun h35 => ?_) (fun h35 => absurd (q1) h35)
          refine gj_kc (v := 1) d_Mo_count_42 (by decide) ?_
          refine gj_iadd d_Mo_count_43 ?_
          refine gj_istore_n d_Mo_count_44 (by decide) ?_
          refine gj_iload_n d_Mo_count_45 rfl ?_
          refine gj_aload_n d_Mo_count_46 rfl ?_
          refine gj_get d_Mo_count_47 gf_Mo_38 m70 rfl ?_
          refine gj_iload d_Mo_count_50 rfl ?_
          refine gj_zald d_Mo_count_52 m74 rfl (vp_in_nI (by omega) (by decide)) ?_
          refine gj_top (y := go (s)) (congrArg go (nI_clamp (by omega))) ?_
          refine gj_if_ne (tgt := 70) d_Mo_count_53 (by decide) (fun h53 => absurd (q1) h53) (fun h53 => ?_)
          refine gj_aload_n d_Mo_count_56 rfl ?_
          refine gj_get d_Mo_count_57 gf_Mo_51 m70 rfl ?_
          refine gj_iload d_Mo_count_60 rfl ?_
          refine gj_iald d_Mo_count_62 m78 rfl (vp_in_nI (by omega) (by decide)) ?_
          refine gj_top (y := se (s)) (congrArg se (nI_clamp (by omega))) ?_
          refine gj_if_lt (tgt := 70) d_Mo_count_63 (by decide) (fun h63 => absurd h63 (Int32.not_lt.mpr q2)) (fun h63 => ?_)
          refine gj_kc (v := 1) d_Mo_count_66 (by decide) ?_
          refine gj_goto (tgt := 71) d_Mo_count_67 (by decide) ?_
          refine gj_iadd d_Mo_count_71 ?_
          refine gj_istore_n d_Mo_count_72 (by decide) ?_
          refine gj_iload d_Mo_count_73 rfl ?_
          refine gj_aload_n d_Mo_count_75 rfl ?_
          refine gj_get d_Mo_count_76 gf_Mo_38 m70 rfl ?_
          refine gj_iload d_Mo_count_79 rfl ?_
          refine gj_zald d_Mo_count_81 m74 rfl (vp_in_nI (by omega) (by decide)) ?_
          refine gj_top (y := go (s)) (congrArg go (nI_clamp (by omega))) ?_
          refine gj_if_ne (tgt := 105) d_Mo_count_82 (by decide) (fun h82 => absurd (q1) h82) (fun h82 => ?_)
          refine gj_aload_n d_Mo_count_85 rfl ?_
          refine gj_get d_Mo_count_86 gf_Mo_51 m70 rfl ?_
          refine gj_iload d_Mo_count_89 rfl ?_
          refine gj_iald d_Mo_count_91 m78 rfl (vp_in_nI (by omega) (by decide)) ?_
          refine gj_top (y := se (s)) (congrArg se (nI_clamp (by omega))) ?_
          refine gj_if_lt (tgt := 105) d_Mo_count_92 (by decide) (fun h92 => absurd h92 (Int32.not_lt.mpr q2)) (fun h92 => ?_)
          refine gj_aload_n d_Mo_count_95 rfl ?_
          refine gj_get d_Mo_count_96 gf_Mo_54 m70 rfl ?_
          refine gj_iload d_Mo_count_99 rfl ?_
          refine gj_iald d_Mo_count_101 m79 rfl (vp_in_nI (by omega) (by decide)) ?_
          refine gj_top (y := pr (s)) (congrArg pr (nI_clamp (by omega))) ?_
          refine gj_goto (tgt := 106) d_Mo_count_102 (by decide) ?_
          refine gj_iadd d_Mo_count_106 ?_
          refine gj_istore d_Mo_count_107 (by decide) ?_
          refine gj_iload d_Mo_count_109 rfl ?_
          refine gj_aload_n d_Mo_count_111 rfl ?_
          refine gj_get d_Mo_count_112 gf_Mo_38 m70 rfl ?_
          refine gj_iload d_Mo_count_115 rfl ?_
          refine gj_zald d_Mo_count_117 m74 rfl (vp_in_nI (by omega) (by decide)) ?_
          refine gj_top (y := go (s)) (congrArg go (nI_clamp (by omega))) ?_
          refine gj_if_ne (tgt := 141) d_Mo_count_118 (by decide) (fun h118 => absurd (q1) h118) (fun h118 => ?_)
          refine gj_aload_n d_Mo_count_121 rfl ?_
          refine gj_get d_Mo_count_122 gf_Mo_57 m70 rfl ?_
          refine gj_iload d_Mo_count_125 rfl ?_
          refine gj_iald d_Mo_count_127 m80 rfl (vp_in_nI (by omega) (by decide)) ?_
          refine gj_top (y := le (s)) (congrArg le (nI_clamp (by omega))) ?_
          refine gj_if_lt (tgt := 141) d_Mo_count_128 (by decide) (fun h128 => absurd h128 (Int32.not_lt.mpr q3)) (fun h128 => ?_)
          refine gj_aload_n d_Mo_count_131 rfl ?_
          refine gj_get d_Mo_count_132 gf_Mo_57 m70 rfl ?_
          refine gj_iload d_Mo_count_135 rfl ?_
          refine gj_iald d_Mo_count_137 m80 rfl (vp_in_nI (by omega) (by decide)) ?_
          refine gj_top (y := le (s)) (congrArg le (nI_clamp (by omega))) ?_
          refine gj_goto (tgt := 142) d_Mo_count_138 (by decide) ?_
          refine gj_iadd d_Mo_count_142 ?_
          refine gj_istore d_Mo_count_143 (by decide) ?_
          refine gj_iincN d_Mo_count_145 rfl (by decide) ?_
          refine gj_goto (tgt := 18) d_Mo_count_148 (by decide) ?_
          refine gj_less (lc' := [(0, .ref (70)), (1, .int (w)), (2, .int ((t1) + (1))), (3, .int ((t2) + (1))), (4, .int ((t3) + (pr (s)))), (5, .int ((t4) + (le (s)))), (6, .int (nI (s + 1)))]) ⟨rfl, rfl, rfl, rfl, rfl, rfl, rfl, trivial⟩ ?_
          refine ih (s + 1) ((t1) + (1)) ((t2) + (1)) ((t3) + (pr (s))) ((t4) + (le (s))) (by omega) ?_
          have e1 : pm_a1 go s t1 = (t1) + (1) := if_pos q1
          have e2 : pm_a2 go se s t2 = (t2) + (1) := if_pos ⟨q1, q2⟩
          have e3 : pm_a3 go se pr s t3 = (t3) + (pr (s)) := if_pos ⟨q1, q2⟩
          have e4 : pm_a4 go le s t4 = (t4) + (le (s)) := if_pos ⟨q1, q3⟩
          have h2 : Q (gj_iv (pm_cn sg li (pm_it (pm_a1 go) m (s + 1) (pm_a1 go s t1)) (pm_it (pm_a2 go se) m (s + 1) (pm_a2 go se s t2)) (pm_it (pm_a3 go se pr) m (s + 1) (pm_a3 go se pr s t3)) (pm_it (pm_a4 go le) m (s + 1) (pm_a4 go le s t4)) w), n, C) := hend
          rw [e1, e2, e3, e4] at h2
          exact h2
        · refine gj_iload d_Mo_count_18 rfl ?_
          refine gj_aload_n d_Mo_count_20 rfl ?_
          refine gj_get d_Mo_count_21 gf_Mo_35 m70 rfl ?_
          refine gj_icmp_ge (tgt := 151) d_Mo_count_24 (by decide) (fun h24 => by have m24 : ns ≤ s := (nI_leI (a := ns) (b := s) (by omega) (by omega)).mp h24; exact absurd m24 (show ¬ (ns ≤ s) from by omega)) (fun h24 => ?_)
          have m24 : ¬ (ns ≤ s) := fun q => h24 ((nI_leI (a := ns) (b := s) (by omega) (by omega)).mpr q)
          refine gj_iload_n d_Mo_count_27 rfl ?_
          refine gj_aload_n d_Mo_count_28 rfl ?_
          refine gj_get d_Mo_count_29 gf_Mo_38 m70 rfl ?_
          refine gj_iload d_Mo_count_32 rfl ?_
          refine gj_zald d_Mo_count_34 m74 rfl (vp_in_nI (by omega) (by decide)) ?_
          refine gj_top (y := go (s)) (congrArg go (nI_clamp (by omega))) ?_
          refine gj_if_eq (tgt := 42) d_Mo_count_35 (by decide) (fun h35 => ?_) (fun h35 => absurd (q1) h35)
          refine gj_kc (v := 1) d_Mo_count_42 (by decide) ?_
          refine gj_iadd d_Mo_count_43 ?_
          refine gj_istore_n d_Mo_count_44 (by decide) ?_
          refine gj_iload_n d_Mo_count_45 rfl ?_
          refine gj_aload_n d_Mo_count_46 rfl ?_
          refine gj_get d_Mo_count_47 gf_Mo_38 m70 rfl ?_
          refine gj_iload d_Mo_count_50 rfl ?_
          refine gj_zald d_Mo_count_52 m74 rfl (vp_in_nI (by omega) (by decide)) ?_
          refine gj_top (y := go (s)) (congrArg go (nI_clamp (by omega))) ?_
          refine gj_if_ne (tgt := 70) d_Mo_count_53 (by decide) (fun h53 => absurd (q1) h53) (fun h53 => ?_)
          refine gj_aload_n d_Mo_count_56 rfl ?_
          refine gj_get d_Mo_count_57 gf_Mo_51 m70 rfl ?_
          refine gj_iload d_Mo_count_60 rfl ?_
          refine gj_iald d_Mo_count_62 m78 rfl (vp_in_nI (by omega) (by decide)) ?_
          refine gj_top (y := se (s)) (congrArg se (nI_clamp (by omega))) ?_
          refine gj_if_lt (tgt := 70) d_Mo_count_63 (by decide) (fun h63 => absurd h63 (Int32.not_lt.mpr q2)) (fun h63 => ?_)
          refine gj_kc (v := 1) d_Mo_count_66 (by decide) ?_
          refine gj_goto (tgt := 71) d_Mo_count_67 (by decide) ?_
          refine gj_iadd d_Mo_count_71 ?_
          refine gj_istore_n d_Mo_count_72 (by decide) ?_
          refine gj_iload d_Mo_count_73 rfl ?_
          refine gj_aload_n d_Mo_count_75 rfl ?_
          refine gj_get d_Mo_count_76 gf_Mo_38 m70 rfl ?_
          refine gj_iload d_Mo_count_79 rfl ?_
          refine gj_zald d_Mo_count_81 m74 rfl (vp_in_nI (by omega) (by decide)) ?_
          refine gj_top (y := go (s)) (congrArg go (nI_clamp (by omega))) ?_
          refine gj_if_ne (tgt := 105) d_Mo_count_82 (by decide) (fun h82 => absurd (q1) h82) (fun h82 => ?_)
          refine gj_aload_n d_Mo_count_85 rfl ?_
          refine gj_get d_Mo_count_86 gf_Mo_51 m70 rfl ?_
          refine gj_iload d_Mo_count_89 rfl ?_
          refine gj_iald d_Mo_count_91 m78 rfl (vp_in_nI (by omega) (by decide)) ?_
          refine gj_top (y := se (s)) (congrArg se (nI_clamp (by omega))) ?_
          refine gj_if_lt (tgt := 105) d_Mo_count_92 (by decide) (fun h92 => absurd h92 (Int32.not_lt.mpr q2)) (fun h92 => ?_)
          refine gj_aload_n d_Mo_count_95 rfl ?_
          refine gj_get d_Mo_count_96 gf_Mo_54 m70 rfl ?_
          refine gj_iload d_Mo_count_99 rfl ?_
          refine gj_iald d_Mo_count_101 m79 rfl (vp_in_nI (by omega) (by decide)) ?_
          refine gj_top (y := pr (s)) (congrArg pr (nI_clamp (by omega))) ?_
          refine gj_goto (tgt := 106) d_Mo_count_102 (by decide) ?_
          refine gj_iadd d_Mo_count_106 ?_
          refine gj_istore d_Mo_count_107 (by decide) ?_
          refine gj_iload d_Mo_count_109 rfl ?_
          refine gj_aload_n d_Mo_count_111 rfl ?_
          refine gj_get d_Mo_count_112 gf_Mo_38 m70 rfl ?_
          refine gj_iload d_Mo_count_115 rfl ?_
          refine gj_zald d_Mo_count_117 m74 rfl (vp_in_nI (by omega) (by decide)) ?_
          refine gj_top (y := go (s)) (congrArg go (nI_clamp (by omega))) ?_
          refine gj_if_ne (tgt := 141) d_Mo_count_118 (by decide) (fun h118 => absurd (q1) h118) (fun h118 => ?_)
          refine gj_aload_n d_Mo_count_121 rfl ?_
          refine gj_get d_Mo_count_122 gf_Mo_57 m70 rfl ?_
          refine gj_iload d_Mo_count_125 rfl ?_
          refine gj_iald d_Mo_count_127 m80 rfl (vp_in_nI (by omega) (by decide)) ?_
          refine gj_top (y := le (s)) (congrArg le (nI_clamp (by omega))) ?_
          refine gj_if_lt (tgt := 141) d_Mo_count_128 (by decide) (fun h128 => ?_) (fun h128 => absurd (Int32.not_le.mp q3) h128)
          refine gj_kc (v := 0) d_Mo_count_141 (by decide) ?_
          refine gj_iadd d_Mo_count_142 ?_
          refine gj_top (y := t4) (Int32.add_zero _) ?_
          refine gj_istore d_Mo_count_143 (by decide) ?_
          refine gj_iincN d_Mo_count_145 rfl (by decide) ?_
          refine gj_goto (tgt := 18) d_Mo_count_148 (by decide) ?_
          refine gj_less (lc' := [(0, .ref (70)), (1, .int (w)), (2, .int ((t1) + (1))), (3, .int ((t2) + (1))), (4, .int ((t3) + (pr (s)))), (5, .int (t4)), (6, .int (nI (s + 1)))]) ⟨rfl, rfl, rfl, rfl, rfl, rfl, rfl, trivial⟩ ?_
          refine ih (s + 1) ((t1) + (1)) ((t2) + (1)) ((t3) + (pr (s))) (t4) (by omega) ?_
          have e1 : pm_a1 go s t1 = (t1) + (1) := if_pos q1
          have e2 : pm_a2 go se s t2 = (t2) + (1) := if_pos ⟨q1, q2⟩
          have e3 : pm_a3 go se pr s t3 = (t3) + (pr (s)) := if_pos ⟨q1, q2⟩
          have e4 : pm_a4 go le s t4 = t4 := if_neg (fun z => q3 z.2)
          have h2 : Q (gj_iv (pm_cn sg li (pm_it (pm_a1 go) m (s + 1) (pm_a1 go s t1)) (pm_it (pm_a2 go se) m (s + 1) (pm_a2 go se s t2)) (pm_it (pm_a3 go se pr) m (s + 1) (pm_a3 go se pr s t3)) (pm_it (pm_a4 go le) m (s + 1) (pm_a4 go le s t4)) w), n, C) := hend
          rw [e1, e2, e3, e4] at h2
          exact h2
      · by_cases q3 : 0 ≤ le s
        · refine gj_iload d_Mo_count_18 rfl ?_
          refine gj_aload_n d_Mo_count_20 rfl ?_
          refine gj_get d_Mo_count_21 gf_Mo_35 m70 rfl ?_
          refine gj_icmp_ge (tgt := 151) d_Mo_count_24 (by decide) (fun h24 => by have m24 : ns ≤ s := (nI_leI (a := ns) (b := s) (by omega) (by omega)).mp h24; exact absurd m24 (show ¬ (ns ≤ s) from by omega)) (fun h24 => ?_)
          have m24 : ¬ (ns ≤ s) := fun q => h24 ((nI_leI (a := ns) (b := s) (by omega) (by omega)).mpr q)
          refine gj_iload_n d_Mo_count_27 rfl ?_
          refine gj_aload_n d_Mo_count_28 rfl ?_
          refine gj_get d_Mo_count_29 gf_Mo_38 m70 rfl ?_
          refine gj_iload d_Mo_count_32 rfl ?_
          refine gj_zald d_Mo_count_34 m74 rfl (vp_in_nI (by omega) (by decide)) ?_
          refine gj_top (y := go (s)) (congrArg go (nI_clamp (by omega))) ?_
          refine gj_if_eq (tgt := 42) d_Mo_count_35 (by decide) (fun h35 => ?_) (fun h35 => absurd (q1) h35)
          refine gj_kc (v := 1) d_Mo_count_42 (by decide) ?_
          refine gj_iadd d_Mo_count_43 ?_
          refine gj_istore_n d_Mo_count_44 (by decide) ?_
          refine gj_iload_n d_Mo_count_45 rfl ?_
          refine gj_aload_n d_Mo_count_46 rfl ?_
          refine gj_get d_Mo_count_47 gf_Mo_38 m70 rfl ?_
          refine gj_iload d_Mo_count_50 rfl ?_
          refine gj_zald d_Mo_count_52 m74 rfl (vp_in_nI (by omega) (by decide)) ?_
          refine gj_top (y := go (s)) (congrArg go (nI_clamp (by omega))) ?_
          refine gj_if_ne (tgt := 70) d_Mo_count_53 (by decide) (fun h53 => absurd (q1) h53) (fun h53 => ?_)
          refine gj_aload_n d_Mo_count_56 rfl ?_
          refine gj_get d_Mo_count_57 gf_Mo_51 m70 rfl ?_
          refine gj_iload d_Mo_count_60 rfl ?_
          refine gj_iald d_Mo_count_62 m78 rfl (vp_in_nI (by omega) (by decide)) ?_
          refine gj_top (y := se (s)) (congrArg se (nI_clamp (by omega))) ?_
          refine gj_if_lt (tgt := 70) d_Mo_count_63 (by decide) (fun h63 => ?_) (fun h63 => absurd (Int32.not_le.mp q2) h63)
          refine gj_kc (v := 0) d_Mo_count_70 (by decide) ?_
          refine gj_iadd d_Mo_count_71 ?_
          refine gj_top (y := t2) (Int32.add_zero _) ?_
          refine gj_istore_n d_Mo_count_72 (by decide) ?_
          refine gj_iload d_Mo_count_73 rfl ?_
          refine gj_aload_n d_Mo_count_75 rfl ?_
          refine gj_get d_Mo_count_76 gf_Mo_38 m70 rfl ?_
          refine gj_iload d_Mo_count_79 rfl ?_
          refine gj_zald d_Mo_count_81 m74 rfl (vp_in_nI (by omega) (by decide)) ?_
          refine gj_top (y := go (s)) (congrArg go (nI_clamp (by omega))) ?_
          refine gj_if_ne (tgt := 105) d_Mo_count_82 (by decide) (fun h82 => absurd (q1) h82) (fun h82 => ?_)
          refine gj_aload_n d_Mo_count_85 rfl ?_
          refine gj_get d_Mo_count_86 gf_Mo_51 m70 rfl ?_
          refine gj_iload d_Mo_count_89 rfl ?_
          refine gj_iald d_Mo_count_91 m78 rfl (vp_in_nI (by omega) (by decide)) ?_
          refine gj_top (y := se (s)) (congrArg se (nI_clamp (by omega))) ?_
          refine gj_if_lt (tgt := 105) d_Mo_count_92 (by decide) (fun h92 => ?_) (fun h92 => absurd (Int32.not_le.mp q2) h92)
          refine gj_kc (v := 0) d_Mo_count_105 (by decide) ?_
          refine gj_iadd d_Mo_count_106 ?_
          refine gj_top (y := t3) (Int32.add_zero _) ?_
          refine gj_istore d_Mo_count_107 (by decide) ?_
          refine gj_iload d_Mo_count_109 rfl ?_
          refine gj_aload_n d_Mo_count_111 rfl ?_
          refine gj_get d_Mo_count_112 gf_Mo_38 m70 rfl ?_
          refine gj_iload d_Mo_count_115 rfl ?_
          refine gj_zald d_Mo_count_117 m74 rfl (vp_in_nI (by omega) (by decide)) ?_
          refine gj_top (y := go (s)) (congrArg go (nI_clamp (by omega))) ?_
          refine gj_if_ne (tgt := 141) d_Mo_count_118 (by decide) (fun h118 => absurd (q1) h118) (fun h118 => ?_)
          refine gj_aload_n d_Mo_count_121 rfl ?_
          refine gj_get d_Mo_count_122 gf_Mo_57 m70 rfl ?_
          refine gj_iload d_Mo_count_125 rfl ?_
          refine gj_iald d_Mo_count_127 m80 rfl (vp_in_nI (by omega) (by decide)) ?_
          refine gj_top (y := le (s)) (congrArg le (nI_clamp (by omega))) ?_
          refine gj_if_lt (tgt := 141) d_Mo_count_128 (by decide) (fun h128 => absurd h128 (Int32.not_lt.mpr q3)) (fun h128 => ?_)
          refine gj_aload_n d_Mo_count_131 rfl ?_
          refine gj_get d_Mo_count_132 gf_Mo_57 m70 rfl ?_
          refine gj_iload d_Mo_count_135 rfl ?_
          refine gj_iald d_Mo_count_137 m80 rfl (vp_in_nI (by omega) (by decide)) ?_
          refine gj_top (y := le (s)) (congrArg le (nI_clamp (by omega))) ?_
          refine gj_goto (tgt := 142) d_Mo_count_138 (by decide) ?_
          refine gj_iadd d_Mo_count_142 ?_
          refine gj_istore d_Mo_count_143 (by decide) ?_
          refine gj_iincN d_Mo_count_145 rfl (by decide) ?_
          refine gj_goto (tgt := 18) d_Mo_count_148 (by decide) ?_
          refine gj_less (lc' := [(0, .ref (70)), (1, .int (w)), (2, .int ((t1) + (1))), (3, .int (t2)), (4, .int (t3)), (5, .int ((t4) + (le (s)))), (6, .int (nI (s + 1)))]) ⟨rfl, rfl, rfl, rfl, rfl, rfl, rfl, trivial⟩ ?_
          refine ih (s + 1) ((t1) + (1)) (t2) (t3) ((t4) + (le (s))) (by omega) ?_
          have e1 : pm_a1 go s t1 = (t1) + (1) := if_pos q1
          have e2 : pm_a2 go se s t2 = t2 := if_neg (fun z => q2 z.2)
          have e3 : pm_a3 go se pr s t3 = t3 := if_neg (fun z => q2 z.2)
          have e4 : pm_a4 go le s t4 = (t4) + (le (s)) := if_pos ⟨q1, q3⟩
          have h2 : Q (gj_iv (pm_cn sg li (pm_it (pm_a1 go) m (s + 1) (pm_a1 go s t1)) (pm_it (pm_a2 go se) m (s + 1) (pm_a2 go se s t2)) (pm_it (pm_a3 go se pr) m (s + 1) (pm_a3 go se pr s t3)) (pm_it (pm_a4 go le) m (s + 1) (pm_a4 go le s t4)) w), n, C) := hend
          rw [e1, e2, e3, e4] at h2
          exact h2
        · refine gj_iload d_Mo_count_18 rfl ?_
          refine gj_aload_n d_Mo_count_20 rfl ?_
          refine gj_get d_Mo_count_21 gf_Mo_35 m70 rfl ?_
          refine gj_icmp_ge (tgt := 151) d_Mo_count_24 (by decide) (fun h24 => by have m24 : ns ≤ s := (nI_leI (a := ns) (b := s) (by omega) (by omega)).mp h24; exact absurd m24 (show ¬ (ns ≤ s) from by omega)) (fun h24 => ?_)
          have m24 : ¬ (ns ≤ s) := fun q => h24 ((nI_leI (a := ns) (b := s) (by omega) (by omega)).mpr q)
          refine gj_iload_n d_Mo_count_27 rfl ?_
          refine gj_aload_n d_Mo_count_28 rfl ?_
          refine gj_get d_Mo_count_29 gf_Mo_38 m70 rfl ?_
          refine gj_iload d_Mo_count_32 rfl ?_
          refine gj_zald d_Mo_count_34 m74 rfl (vp_in_nI (by omega) (by decide)) ?_
          refine gj_top (y := go (s)) (congrArg go (nI_clamp (by omega))) ?_
          refine gj_if_eq (tgt := 42) d_Mo_count_35 (by decide) (fun h35 => ?_) (fun h35 => absurd (q1) h35)
          refine gj_kc (v := 1) d_Mo_count_42 (by decide) ?_
          refine gj_iadd d_Mo_count_43 ?_
          refine gj_istore_n d_Mo_count_44 (by decide) ?_
          refine gj_iload_n d_Mo_count_45 rfl ?_
          refine gj_aload_n d_Mo_count_46 rfl ?_
          refine gj_get d_Mo_count_47 gf_Mo_38 m70 rfl ?_
          refine gj_iload d_Mo_count_50 rfl ?_
          refine gj_zald d_Mo_count_52 m74 rfl (vp_in_nI (by omega) (by decide)) ?_
          refine gj_top (y := go (s)) (congrArg go (nI_clamp (by omega))) ?_
          refine gj_if_ne (tgt := 70) d_Mo_count_53 (by decide) (fun h53 => absurd (q1) h53) (fun h53 => ?_)
          refine gj_aload_n d_Mo_count_56 rfl ?_
          refine gj_get d_Mo_count_57 gf_Mo_51 m70 rfl ?_
          refine gj_iload d_Mo_count_60 rfl ?_
          refine gj_iald d_Mo_count_62 m78 rfl (vp_in_nI (by omega) (by decide)) ?_
          refine gj_top (y := se (s)) (congrArg se (nI_clamp (by omega))) ?_
          refine gj_if_lt (tgt := 70) d_Mo_count_63 (by decide) (fun h63 => ?_) (fun h63 => absurd (Int32.not_le.mp q2) h63)
          refine gj_kc (v := 0) d_Mo_count_70 (by decide) ?_
          refine gj_iadd d_Mo_count_71 ?_
          refine gj_top (y := t2) (Int32.add_zero _) ?_
          refine gj_istore_n d_Mo_count_72 (by decide) ?_
          refine gj_iload d_Mo_count_73 rfl ?_
          refine gj_aload_n d_Mo_count_75 rfl ?_
          refine gj_get d_Mo_count_76 gf_Mo_38 m70 rfl ?_
          refine gj_iload d_Mo_count_79 rfl ?_
          refine gj_zald d_Mo_count_81 m74 rfl (vp_in_nI (by omega) (by decide)) ?_
          refine gj_top (y := go (s)) (congrArg go (nI_clamp (by omega))) ?_
          refine gj_if_ne (tgt := 105) d_Mo_count_82 (by decide) (fun h82 => absurd (q1) h82) (fun h82 => ?_)
          refine gj_aload_n d_Mo_count_85 rfl ?_
          refine gj_get d_Mo_count_86 gf_Mo_51 m70 rfl ?_
          refine gj_iload d_Mo_count_89 rfl ?_
          refine gj_iald d_Mo_count_91 m78 rfl (vp_in_nI (by omega) (by decide)) ?_
          refine gj_top (y := se (s)) (congrArg se (nI_clamp (by omega))) ?_
          refine gj_if_lt (tgt := 105) d_Mo_count_92 (by decide) (fun h92 => ?_) (fun h92 => absurd (Int32.not_le.mp q2) h92)
          refine gj_kc (v := 0) d_Mo_count_105 (by decide) ?_
          refine gj_iadd d_Mo_count_106 ?_
          refine gj_top (y := t3) (Int32.add_zero _) ?_
          refine gj_istore d_Mo_count_107 (by decide) ?_
          refine gj_iload d_Mo_count_109 rfl ?_
          refine gj_aload_n d_Mo_count_111 rfl ?_
          refine gj_get d_Mo_count_112 gf_Mo_38 m70 rfl ?_
          refine gj_iload d_Mo_count_115 rfl ?_
          refine gj_zald d_Mo_count_117 m74 rfl (vp_in_nI (by omega) (by decide)) ?_
          refine gj_top (y := go (s)) (congrArg go (nI_clamp (by omega))) ?_
          refine gj_if_ne (tgt := 141) d_Mo_count_118 (by decide) (fun h118 => absurd (q1) h118) (fun h118 => ?_)
          refine gj_aload_n d_Mo_count_121 rfl ?_
          refine gj_get d_Mo_count_122 gf_Mo_57 m70 rfl ?_
          refine gj_iload d_Mo_count_125 rfl ?_
          refine gj_iald d_Mo_count_127 m80 rfl (vp_in_nI (by omega) (by decide)) ?_
          refine gj_top (y := le (s)) (congrArg le (nI_clamp (by omega))) ?_
          refine gj_if_lt (tgt := 141) d_Mo_count_128 (by decide) (fun h128 => ?_) (fun h128 => absurd (Int32.not_le.mp q3) h128)
          refine gj_kc (v := 0) d_Mo_count_141 (by decide) ?_
          refine gj_iadd d_Mo_count_142 ?_
          refine gj_top (y := t4) (Int32.add_zero _) ?_
          refine gj_istore d_Mo_count_143 (by decide) ?_
          refine gj_iincN d_Mo_count_145 rfl (by decide) ?_
          refine gj_goto (tgt := 18) d_Mo_count_148 (by decide) ?_
          refine gj_less (lc' := [(0, .ref (70)), (1, .int (w)), (2, .int ((t1) + (1))), (3, .int (t2)), (4, .int (t3)), (5, .int (t4)), (6, .int (nI (s + 1)))]) ⟨rfl, rfl, rfl, rfl, rfl, rfl, rfl, trivial⟩ ?_
          refine ih (s + 1) ((t1) + (1)) (t2) (t3) (t4) (by omega) ?_
          have e1 : pm_a1 go s t1 = (t1) + (1) := if_pos q1
          have e2 : pm_a2 go se s t2 = t2 := if_neg (fun z => q2 z.2)
          have e3 : pm_a3 go se pr s t3 = t3 := if_neg (fun z => q2 z.2)
          have e4 : pm_a4 go le s t4 = t4 := if_neg (fun z => q3 z.2)
          have h2 : Q (gj_iv (pm_cn sg li (pm_it (pm_a1 go) m (s + 1) (pm_a1 go s t1)) (pm_it (pm_a2 go se) m (s + 1) (pm_a2 go se s t2)) (pm_it (pm_a3 go se pr) m (s + 1) (pm_a3 go se pr s t3)) (pm_it (pm_a4 go le) m (s + 1) (pm_a4 go le s t4)) w), n, C) := hend
          rw [e1, e2, e3, e4] at h2
          exact h2
    · refine gj_iload d_Mo_count_18 rfl ?_
      refine gj_aload_n d_Mo_count_20 rfl ?_
      refine gj_get d_Mo_count_21 gf_Mo_35 m70 rfl ?_
      refine gj_icmp_ge (tgt := 151) d_Mo_count_24 (by decide) (fun h24 => by have m24 : ns ≤ s := (nI_leI (a := ns) (b := s) (by omega) (by omega)).mp h24; exact absurd m24 (show ¬ (ns ≤ s) from by omega)) (fun h24 => ?_)
      have m24 : ¬ (ns ≤ s) := fun q => h24 ((nI_leI (a := ns) (b := s) (by omega) (by omega)).mpr q)
      refine gj_iload_n d_Mo_count_27 rfl ?_
      refine gj_aload_n d_Mo_count_28 rfl ?_
      refine gj_get d_Mo_count_29 gf_Mo_38 m70 rfl ?_
      refine gj_iload d_Mo_count_32 rfl ?_
      refine gj_zald d_Mo_count_34 m74 rfl (vp_in_nI (by omega) (by decide)) ?_
      refine gj_top (y := go (s)) (congrArg go (nI_clamp (by omega))) ?_
      refine gj_if_eq (tgt := 42) d_Mo_count_35 (by decide) (fun h35 => absurd h35 (q1)) (fun h35 => ?_)
      refine gj_kc (v := 0) d_Mo_count_38 (by decide) ?_
      refine gj_goto (tgt := 43) d_Mo_count_39 (by decide) ?_
      refine gj_iadd d_Mo_count_43 ?_
      refine gj_top (y := t1) (Int32.add_zero _) ?_
      refine gj_istore_n d_Mo_count_44 (by decide) ?_
      refine gj_iload_n d_Mo_count_45 rfl ?_
      refine gj_aload_n d_Mo_count_46 rfl ?_
      refine gj_get d_Mo_count_47 gf_Mo_38 m70 rfl ?_
      refine gj_iload d_Mo_count_50 rfl ?_
      refine gj_zald d_Mo_count_52 m74 rfl (vp_in_nI (by omega) (by decide)) ?_
      refine gj_top (y := go (s)) (congrArg go (nI_clamp (by omega))) ?_
      refine gj_if_ne (tgt := 70) d_Mo_count_53 (by decide) (fun h53 => ?_) (fun h53 => absurd h53 (q1))
      refine gj_kc (v := 0) d_Mo_count_70 (by decide) ?_
      refine gj_iadd d_Mo_count_71 ?_
      refine gj_top (y := t2) (Int32.add_zero _) ?_
      refine gj_istore_n d_Mo_count_72 (by decide) ?_
      refine gj_iload d_Mo_count_73 rfl ?_
      refine gj_aload_n d_Mo_count_75 rfl ?_
      refine gj_get d_Mo_count_76 gf_Mo_38 m70 rfl ?_
      refine gj_iload d_Mo_count_79 rfl ?_
      refine gj_zald d_Mo_count_81 m74 rfl (vp_in_nI (by omega) (by decide)) ?_
      refine gj_top (y := go (s)) (congrArg go (nI_clamp (by omega))) ?_
      refine gj_if_ne (tgt := 105) d_Mo_count_82 (by decide) (fun h82 => ?_) (fun h82 => absurd h82 (q1))
      refine gj_kc (v := 0) d_Mo_count_105 (by decide) ?_
      refine gj_iadd d_Mo_count_106 ?_
      refine gj_top (y := t3) (Int32.add_zero _) ?_
      refine gj_istore d_Mo_count_107 (by decide) ?_
      refine gj_iload d_Mo_count_109 rfl ?_
      refine gj_aload_n d_Mo_count_111 rfl ?_
      refine gj_get d_Mo_count_112 gf_Mo_38 m70 rfl ?_
      refine gj_iload d_Mo_count_115 rfl ?_
      refine gj_zald d_Mo_count_117 m74 rfl (vp_in_nI (by omega) (by decide)) ?_
      refine gj_top (y := go (s)) (congrArg go (nI_clamp (by omega))) ?_
      refine gj_if_ne (tgt := 141) d_Mo_count_118 (by decide) (fun h118 => ?_) (fun h118 => absurd h118 (q1))
      refine gj_kc (v := 0) d_Mo_count_141 (by decide) ?_
      refine gj_iadd d_Mo_count_142 ?_
      refine gj_top (y := t4) (Int32.add_zero _) ?_
      refine gj_istore d_Mo_count_143 (by decide) ?_
      refine gj_iincN d_Mo_count_145 rfl (by decide) ?_
      refine gj_goto (tgt := 18) d_Mo_count_148 (by decide) ?_
      refine gj_less (lc' := [(0, .ref (70)), (1, .int (w)), (2, .int (t1)), (3, .int (t2)), (4, .int (t3)), (5, .int (t4)), (6, .int (nI (s + 1)))]) ⟨rfl, rfl, rfl, rfl, rfl, rfl, rfl, trivial⟩ ?_
      refine ih (s + 1) (t1) (t2) (t3) (t4) (by omega) ?_
      have e1 : pm_a1 go s t1 = t1 := if_neg q1
      have e2 : pm_a2 go se s t2 = t2 := if_neg (fun z => q1 z.1)
      have e3 : pm_a3 go se pr s t3 = t3 := if_neg (fun z => q1 z.1)
      have e4 : pm_a4 go le s t4 = t4 := if_neg (fun z => q1 z.1)
      have h2 : Q (gj_iv (pm_cn sg li (pm_it (pm_a1 go) m (s + 1) (pm_a1 go s t1)) (pm_it (pm_a2 go se) m (s + 1) (pm_a2 go se s t2)) (pm_it (pm_a3 go se pr) m (s + 1) (pm_a3 go se pr s t3)) (pm_it (pm_a4 go le) m (s + 1) (pm_a4 go le s t4)) w), n, C) := hend
      rw [e1, e2, e3, e4] at h2
      exact h2
set_option maxHeartbeats 2000000 in
theorem c_Mo_count {d K N n sg li nl ap ns dy : Nat} {tc : Int32} {C : Nat → va_E} {go se pr le : Nat → Int32} (m70 : C (70) = .inr (5, [.int (tc), .ref (71), .int (nI sg), .int (nI li), .ref (72), .int (nI nl), .ref (73), .int (nI ap), .int (nI ns), .ref (74), .ref (75), .ref (76), .ref (77), .ref (78), .ref (79), .ref (80), .ref (81), .ref (82), .ref (83), .ref (84), .int (nI dy), .ref (85), .ref (86), .ref (87), .ref (88), .ref (89), .ref (90)])) (m74 : C (74) = .inl (2, 20, .inl go)) (m78 : C (78) = .inl (0, 20, .inl se)) (m79 : C (79) = .inl (0, 20, .inl pr)) (m80 : C (80) = .inl (0, 20, .inl le)) (hns : ns ≤ 20) {w : Int32} : gj_G md_Mo_count (d) K N 0 0 0 [(0, .ref (70)), (1, .int (w))] [] (n) C (fun r => r.1 = gj_iv (pm_cn sg li (pm_it (pm_a1 go) ns 0 0) (pm_it (pm_a2 go se) ns 0 0) (pm_it (pm_a3 go se pr) ns 0 0) (pm_it (pm_a4 go le) ns 0 0) w) ∧ r.2.1 = n ∧ r.2.2 70 = .inr (5, [.int (0), .ref (71), .int (nI sg), .int (nI li), .ref (72), .int (nI nl), .ref (73), .int (nI ap), .int (nI ns), .ref (74), .ref (75), .ref (76), .ref (77), .ref (78), .ref (79), .ref (80), .ref (81), .ref (82), .ref (83), .ref (84), .int (nI dy), .ref (85), .ref (86), .ref (87), .ref (88), .ref (89), .ref (90)]) ∧ ∀ y, y ≠ 70 → r.2.2 y = C y) := by
  refine gj_aload_n d_Mo_count_0 rfl ?_
  refine gj_kc (v := 0) d_Mo_count_1 (by decide) ?_
  refine gj_put d_Mo_count_2 gp_Mo_7 m70 (Nat.le_of_ble_eq_true rfl) (fun _ => rfl) (fun _ => rfl) ?_
  obtain ⟨C1, eC1⟩ : ∃ Z0, Z0 = va_up C (70) (.inr (5, [.int (0), .ref (71), .int (nI sg), .int (nI li), .ref (72), .int (nI nl), .ref (73), .int (nI ap), .int (nI ns), .ref (74), .ref (75), .ref (76), .ref (77), .ref (78), .ref (79), .ref (80), .ref (81), .ref (82), .ref (83), .ref (84), .int (nI dy), .ref (85), .ref (86), .ref (87), .ref (88), .ref (89), .ref (90)])) := ⟨_, rfl⟩
  refine gj_mem eC1 ?_
  have f2 : C1 (70) = .inr (5, [.int (0), .ref (71), .int (nI sg), .int (nI li), .ref (72), .int (nI nl), .ref (73), .int (nI ap), .int (nI ns), .ref (74), .ref (75), .ref (76), .ref (77), .ref (78), .ref (79), .ref (80), .ref (81), .ref (82), .ref (83), .ref (84), .int (nI dy), .ref (85), .ref (86), .ref (87), .ref (88), .ref (89), .ref (90)]) := by rw [eC1]; exact va_up_self _ _ _
  have f3 : C1 (74) = .inl (2, 20, .inl go) := by rw [eC1, va_up_ne _ _ (by omega)]; exact m74
  have f4 : C1 (78) = .inl (0, 20, .inl se) := by rw [eC1, va_up_ne _ _ (by omega)]; exact m78
  have f5 : C1 (79) = .inl (0, 20, .inl pr) := by rw [eC1, va_up_ne _ _ (by omega)]; exact m79
  have f6 : C1 (80) = .inl (0, 20, .inl le) := by rw [eC1, va_up_ne _ _ (by omega)]; exact m80
  refine gj_kc (v := 0) d_Mo_count_5 (by decide) ?_
  refine gj_istore_n d_Mo_count_6 (by decide) ?_
  refine gj_kc (v := 0) d_Mo_count_7 (by decide) ?_
  refine gj_istore_n d_Mo_count_8 (by decide) ?_
  refine gj_kc (v := 0) d_Mo_count_9 (by decide) ?_
  refine gj_istore d_Mo_count_10 (by decide) ?_
  refine gj_kc (v := 0) d_Mo_count_12 (by decide) ?_
  refine gj_istore d_Mo_count_13 (by decide) ?_
  refine gj_kc (v := 0) d_Mo_count_15 (by decide) ?_
  refine gj_istore d_Mo_count_16 (by decide) ?_
  refine gj_less (lc' := [(0, .ref (70)), (1, .int (w)), (2, .int (0)), (3, .int (0)), (4, .int (0)), (5, .int (0)), (6, .int (nI 0))]) ⟨rfl, rfl, rfl, rfl, rfl, rfl, rfl, trivial⟩ ?_
  exact c_Mo_count_loop f2 f3 f4 f5 f6 hns ns 0 0 0 0 0 (by omega) ⟨rfl, rfl, f2, fun y c0 => by show C1 y = C y; rw [eC1, va_up_ne _ _ (by assumption)]⟩
noncomputable def pq_ld (lr : Nat → Int32) (a z : Int32) : Nat → Nat → Nat → Int32 → (Nat → Int32) → (Nat → Int32) → (Nat → Int32) → Nat × (Nat → Int32) × (Nat → Int32) × (Nat → Int32)
  | 0, _, c, _, lw, hg, cs => (c, lw, hg, cs)
  | m + 1, k, c, b, lw, hg, cs => if lr (5 * k) = 82 ∧ lr (5 * k + 1) = a ∧ lr (5 * k + 2) = z then pq_ld lr a z m (k + 1) (c + 1) (lr (5 * k + 3)) (upd lw c (b + 1)) (upd hg c (lr (5 * k + 3))) (upd cs c (lr (5 * k + 4))) else pq_ld lr a z m (k + 1) c b lw hg cs
def pq_c (lw hg cs : Nat → Int32) (g : Int32) (a b : Nat) : Nat → Nat → Int32 → Int32
  | 0, _, t => t
  | m + 1, c, t => pq_c lw hg cs g a b m (c + 1) (if (lw a + lw b + lw c ≤ g ∧ g ≤ hg a + hg b + hg c) ∧ (t < 0 ∨ cs a + cs b + cs c < t) then cs a + cs b + cs c else t)
def pq_b (lw hg cs : Nat → Int32) (g : Int32) (n a : Nat) : Nat → Nat → Int32 → Int32
  | 0, _, t => t
  | m + 1, b, t => pq_b lw hg cs g n a m (b + 1) (pq_c lw hg cs g a b n 0 t)
def pq_a (lw hg cs : Nat → Int32) (g : Int32) (n : Nat) : Nat → Nat → Int32 → Int32
  | 0, _, t => t
  | m + 1, a, t => pq_a lw hg cs g n m (a + 1) (pq_b lw hg cs g n a n 0 t)
theorem pq_ld_le (lr : Nat → Int32) (a z : Int32) : ∀ m k c b lw hg cs, c ≤ (pq_ld lr a z m k c b lw hg cs).1 ∧ (pq_ld lr a z m k c b lw hg cs).1 ≤ c + m
  | 0, _, c, _, _, _, _ => ⟨Nat.le_refl c, Nat.le_refl c⟩
  | m + 1, k, c, b, lw, hg, cs => by
    unfold pq_ld
    split
    · have := pq_ld_le lr a z m (k + 1) (c + 1) (lr (5 * k + 3)) (upd lw c (b + 1)) (upd hg c (lr (5 * k + 3))) (upd cs c (lr (5 * k + 4)))
      omega
    · have := pq_ld_le lr a z m (k + 1) c b lw hg cs
      omega
set_option maxHeartbeats 2000000 in
theorem c_Mo_parcels_c {d K N n sg li nl ap ns dy : Nat} {tc : Int32} {C : Nat → va_E} {gr lw hg cs : Nat → Int32} {j cnt : Nat} (m70 : C (70) = .inr (5, [.int (tc), .ref (71), .int (nI sg), .int (nI li), .ref (72), .int (nI nl), .ref (73), .int (nI ap), .int (nI ns), .ref (74), .ref (75), .ref (76), .ref (77), .ref (78), .ref (79), .ref (80), .ref (81), .ref (82), .ref (83), .ref (84), .int (nI dy), .ref (85), .ref (86), .ref (87), .ref (88), .ref (89), .ref (90)])) (m76 : C (76) = .inl (0, 20, .inl gr)) (m88 : C (88) = .inl (0, 61, .inl lw)) (m89 : C (89) = .inl (0, 61, .inl hg)) (m90 : C (90) = .inl (0, 61, .inl cs)) (hj : j < 20) (hct : cnt ≤ 61) {a b : Nat} (ha : a < cnt) (hb : b < cnt) {Q : gj_R → Prop} : ∀ (m : Nat) (c : Nat) (t : Int32), c + m = cnt → gj_G md_Mo_parcels (d + 1) K N 0 0 341 [(0, .ref (70)), (1, .int (nI j)), (3, .int (nI cnt)), (5, .int (pq_c lw hg cs (gr j) a b m c t)), (6, .int (nI a)), (7, .int (nI b))] [] n C Q → gj_G md_Mo_parcels (d + 1) K N 0 0 212 [(0, .ref (70)), (1, .int (nI j)), (3, .int (nI cnt)), (5, .int (t)), (6, .int (nI a)), (7, .int (nI b)), (8, .int (nI c))] [] (n) C Q := by
  intro m
  induction m with
  | zero =>
    intro c t hm hend
    refine gj_iload d_Mo_parcels_212 rfl ?_
    refine gj_iload_n d_Mo_parcels_214 rfl ?_
    refine gj_icmp_ge (tgt := 341) d_Mo_parcels_215 (by decide) (fun h215 => ?_) (fun h215 => by have m215 : ¬ (cnt ≤ c) := fun q => h215 ((nI_leI (a := cnt) (b := c) (by omega) (by omega)).mpr q); exact absurd (show cnt ≤ c from by omega) m215)
    have m215 : cnt ≤ c := (nI_leI (a := cnt) (b := c) (by omega) (by omega)).mp h215
    refine gj_less (lc' := [(0, .ref (70)), (1, .int (nI j)), (3, .int (nI cnt)), (5, .int (t)), (6, .int (nI a)), (7, .int (nI b))]) ⟨rfl, rfl, rfl, rfl, rfl, rfl, trivial⟩ ?_
    exact hend
  | succ m ih =>
    intro c t hm hend
    refine gj_iload d_Mo_parcels_212 rfl ?_
    refine gj_iload_n d_Mo_parcels_214 rfl ?_
    refine gj_icmp_ge (tgt := 341) d_Mo_parcels_215 (by decide) (fun h215 => by have m215 : cnt ≤ c := (nI_leI (a := cnt) (b := c) (by omega) (by omega)).mp h215; exact absurd m215 (show ¬ (cnt ≤ c) from by omega)) (fun h215 => ?_)
    have m215 : ¬ (cnt ≤ c) := fun q => h215 ((nI_leI (a := cnt) (b := c) (by omega) (by omega)).mpr q)
    refine gj_aload_n d_Mo_parcels_218 rfl ?_
    refine gj_get d_Mo_parcels_219 gf_Mo_84 m70 rfl ?_
    refine gj_iload d_Mo_parcels_222 rfl ?_
    refine gj_iald d_Mo_parcels_224 m88 rfl (vp_in_nI (by omega) (by decide)) ?_
    refine gj_top (y := lw (a)) (congrArg lw (nI_clamp (by omega))) ?_
    refine gj_aload_n d_Mo_parcels_225 rfl ?_
    refine gj_get d_Mo_parcels_226 gf_Mo_84 m70 rfl ?_
    refine gj_iload d_Mo_parcels_229 rfl ?_
    refine gj_iald d_Mo_parcels_231 m88 rfl (vp_in_nI (by omega) (by decide)) ?_
    refine gj_top (y := lw (b)) (congrArg lw (nI_clamp (by omega))) ?_
    refine gj_iadd d_Mo_parcels_232 ?_
    refine gj_aload_n d_Mo_parcels_233 rfl ?_
    refine gj_get d_Mo_parcels_234 gf_Mo_84 m70 rfl ?_
    refine gj_iload d_Mo_parcels_237 rfl ?_
    refine gj_iald d_Mo_parcels_239 m88 rfl (vp_in_nI (by omega) (by decide)) ?_
    refine gj_top (y := lw (c)) (congrArg lw (nI_clamp (by omega))) ?_
    refine gj_iadd d_Mo_parcels_240 ?_
    refine gj_aload_n d_Mo_parcels_241 rfl ?_
    refine gj_get d_Mo_parcels_242 gf_Mo_45 m70 rfl ?_
    refine gj_iload_n d_Mo_parcels_245 rfl ?_
    refine gj_iald d_Mo_parcels_246 m76 rfl (vp_in_nI (by omega) (by decide)) ?_
    refine gj_top (y := gr (j)) (congrArg gr (nI_clamp (by omega))) ?_
    refine gj_icmp_gt (tgt := 286) d_Mo_parcels_247 (by decide) (fun h247 => ?_) (fun h247 => ?_)
    · refine gj_kc (v := 0) d_Mo_parcels_286 (by decide) ?_
      refine gj_istore d_Mo_parcels_287 (by decide) ?_
      refine gj_aload_n d_Mo_parcels_289 rfl ?_
      refine gj_get d_Mo_parcels_290 gf_Mo_90 m70 rfl ?_
      refine gj_iload d_Mo_parcels_293 rfl ?_
      refine gj_iald d_Mo_parcels_295 m90 rfl (vp_in_nI (by omega) (by decide)) ?_
      refine gj_top (y := cs (a)) (congrArg cs (nI_clamp (by omega))) ?_
      refine gj_aload_n d_Mo_parcels_296 rfl ?_
      refine gj_get d_Mo_parcels_297 gf_Mo_90 m70 rfl ?_
      refine gj_iload d_Mo_parcels_300 rfl ?_
      refine gj_iald d_Mo_parcels_302 m90 rfl (vp_in_nI (by omega) (by decide)) ?_
      refine gj_top (y := cs (b)) (congrArg cs (nI_clamp (by omega))) ?_
      refine gj_iadd d_Mo_parcels_303 ?_
      refine gj_aload_n d_Mo_parcels_304 rfl ?_
      refine gj_get d_Mo_parcels_305 gf_Mo_90 m70 rfl ?_
      refine gj_iload d_Mo_parcels_308 rfl ?_
      refine gj_iald d_Mo_parcels_310 m90 rfl (vp_in_nI (by omega) (by decide)) ?_
      refine gj_top (y := cs (c)) (congrArg cs (nI_clamp (by omega))) ?_
      refine gj_iadd d_Mo_parcels_311 ?_
      refine gj_istore d_Mo_parcels_312 (by decide) ?_
      refine gj_iload d_Mo_parcels_314 rfl ?_
      refine gj_if_eq (tgt := 335) d_Mo_parcels_316 (by decide) (fun h316 => ?_) (fun h316 => absurd (by decide) h316)
      refine gj_iincN d_Mo_parcels_335 rfl (by decide) ?_
      refine gj_goto (tgt := 212) d_Mo_parcels_338 (by decide) ?_
      refine gj_less (lc' := [(0, .ref (70)), (1, .int (nI j)), (3, .int (nI cnt)), (5, .int (t)), (6, .int (nI a)), (7, .int (nI b)), (8, .int (nI (c + 1)))]) ⟨rfl, rfl, rfl, rfl, rfl, rfl, rfl, trivial⟩ ?_
      refine ih (c + 1) (t) (by omega) ?_
      have e : (if (lw a + lw b + lw c ≤ gr j ∧ gr j ≤ hg a + hg b + hg c) ∧ (t < 0 ∨ cs a + cs b + cs c < t) then cs a + cs b + cs c else t) = t := if_neg (fun z => by first | exact absurd h247 (Int32.not_lt.mpr z.1.1) | exact absurd h279 (Int32.not_lt.mpr z.1.2) | exact z.2.elim h321 (fun u => absurd h328 (Int32.not_le.mpr u)))
      rw [← e]; exact hend
    · refine gj_aload_n d_Mo_parcels_250 rfl ?_
      refine gj_get d_Mo_parcels_251 gf_Mo_45 m70 rfl ?_
      refine gj_iload_n d_Mo_parcels_254 rfl ?_
      refine gj_iald d_Mo_parcels_255 m76 rfl (vp_in_nI (by omega) (by decide)) ?_
      refine gj_top (y := gr (j)) (congrArg gr (nI_clamp (by omega))) ?_
      refine gj_aload_n d_Mo_parcels_256 rfl ?_
      refine gj_get d_Mo_parcels_257 gf_Mo_87 m70 rfl ?_
      refine gj_iload d_Mo_parcels_260 rfl ?_
      refine gj_iald d_Mo_parcels_262 m89 rfl (vp_in_nI (by omega) (by decide)) ?_
      refine gj_top (y := hg (a)) (congrArg hg (nI_clamp (by omega))) ?_
      refine gj_aload_n d_Mo_parcels_263 rfl ?_
      refine gj_get d_Mo_parcels_264 gf_Mo_87 m70 rfl ?_
      refine gj_iload d_Mo_parcels_267 rfl ?_
      refine gj_iald d_Mo_parcels_269 m89 rfl (vp_in_nI (by omega) (by decide)) ?_
      refine gj_top (y := hg (b)) (congrArg hg (nI_clamp (by omega))) ?_
      refine gj_iadd d_Mo_parcels_270 ?_
      refine gj_aload_n d_Mo_parcels_271 rfl ?_
      refine gj_get d_Mo_parcels_272 gf_Mo_87 m70 rfl ?_
      refine gj_iload d_Mo_parcels_275 rfl ?_
      refine gj_iald d_Mo_parcels_277 m89 rfl (vp_in_nI (by omega) (by decide)) ?_
      refine gj_top (y := hg (c)) (congrArg hg (nI_clamp (by omega))) ?_
      refine gj_iadd d_Mo_parcels_278 ?_
      refine gj_icmp_gt (tgt := 286) d_Mo_parcels_279 (by decide) (fun h279 => ?_) (fun h279 => ?_)
      · refine gj_kc (v := 0) d_Mo_parcels_286 (by decide) ?_
        refine gj_istore d_Mo_parcels_287 (by decide) ?_
        refine gj_aload_n d_Mo_parcels_289 rfl ?_
        refine gj_get d_Mo_parcels_290 gf_Mo_90 m70 rfl ?_
        refine gj_iload d_Mo_parcels_293 rfl ?_
        refine gj_iald d_Mo_parcels_295 m90 rfl (vp_in_nI (by omega) (by decide)) ?_
        refine gj_top (y := cs (a)) (congrArg cs (nI_clamp (by omega))) ?_
        refine gj_aload_n d_Mo_parcels_296 rfl ?_
        refine gj_get d_Mo_parcels_297 gf_Mo_90 m70 rfl ?_
        refine gj_iload d_Mo_parcels_300 rfl ?_
        refine gj_iald d_Mo_parcels_302 m90 rfl (vp_in_nI (by omega) (by decide)) ?_
        refine gj_top (y := cs (b)) (congrArg cs (nI_clamp (by omega))) ?_
        refine gj_iadd d_Mo_parcels_303 ?_
        refine gj_aload_n d_Mo_parcels_304 rfl ?_
        refine gj_get d_Mo_parcels_305 gf_Mo_90 m70 rfl ?_
        refine gj_iload d_Mo_parcels_308 rfl ?_
        refine gj_iald d_Mo_parcels_310 m90 rfl (vp_in_nI (by omega) (by decide)) ?_
        refine gj_top (y := cs (c)) (congrArg cs (nI_clamp (by omega))) ?_
        refine gj_iadd d_Mo_parcels_311 ?_
        refine gj_istore d_Mo_parcels_312 (by decide) ?_
        refine gj_iload d_Mo_parcels_314 rfl ?_
        refine gj_if_eq (tgt := 335) d_Mo_parcels_316 (by decide) (fun h316 => ?_) (fun h316 => absurd (by decide) h316)
        refine gj_iincN d_Mo_parcels_335 rfl (by decide) ?_
        refine gj_goto (tgt := 212) d_Mo_parcels_338 (by decide) ?_
        refine gj_less (lc' := [(0, .ref (70)), (1, .int (nI j)), (3, .int (nI cnt)), (5, .int (t)), (6, .int (nI a)), (7, .int (nI b)), (8, .int (nI (c + 1)))]) ⟨rfl, rfl, rfl, rfl, rfl, rfl, rfl, trivial⟩ ?_
        refine ih (c + 1) (t) (by omega) ?_
        have e : (if (lw a + lw b + lw c ≤ gr j ∧ gr j ≤ hg a + hg b + hg c) ∧ (t < 0 ∨ cs a + cs b + cs c < t) then cs a + cs b + cs c else t) = t := if_neg (fun z => by first | exact absurd h247 (Int32.not_lt.mpr z.1.1) | exact absurd h279 (Int32.not_lt.mpr z.1.2) | exact z.2.elim h321 (fun u => absurd h328 (Int32.not_le.mpr u)))
        rw [← e]; exact hend
      · refine gj_kc (v := 1) d_Mo_parcels_282 (by decide) ?_
        refine gj_goto (tgt := 287) d_Mo_parcels_283 (by decide) ?_
        refine gj_istore d_Mo_parcels_287 (by decide) ?_
        refine gj_aload_n d_Mo_parcels_289 rfl ?_
        refine gj_get d_Mo_parcels_290 gf_Mo_90 m70 rfl ?_
        refine gj_iload d_Mo_parcels_293 rfl ?_
        refine gj_iald d_Mo_parcels_295 m90 rfl (vp_in_nI (by omega) (by decide)) ?_
        refine gj_top (y := cs (a)) (congrArg cs (nI_clamp (by omega))) ?_
        refine gj_aload_n d_Mo_parcels_296 rfl ?_
        refine gj_get d_Mo_parcels_297 gf_Mo_90 m70 rfl ?_
        refine gj_iload d_Mo_parcels_300 rfl ?_
        refine gj_iald d_Mo_parcels_302 m90 rfl (vp_in_nI (by omega) (by decide)) ?_
        refine gj_top (y := cs (b)) (congrArg cs (nI_clamp (by omega))) ?_
        refine gj_iadd d_Mo_parcels_303 ?_
        refine gj_aload_n d_Mo_parcels_304 rfl ?_
        refine gj_get d_Mo_parcels_305 gf_Mo_90 m70 rfl ?_
        refine gj_iload d_Mo_parcels_308 rfl ?_
        refine gj_iald d_Mo_parcels_310 m90 rfl (vp_in_nI (by omega) (by decide)) ?_
        refine gj_top (y := cs (c)) (congrArg cs (nI_clamp (by omega))) ?_
        refine gj_iadd d_Mo_parcels_311 ?_
        refine gj_istore d_Mo_parcels_312 (by decide) ?_
        refine gj_iload d_Mo_parcels_314 rfl ?_
        refine gj_if_eq (tgt := 335) d_Mo_parcels_316 (by decide) (fun h316 => absurd h316 (by decide)) (fun h316 => ?_)
        refine gj_iload d_Mo_parcels_319 rfl ?_
        refine gj_if_lt (tgt := 331) d_Mo_parcels_321 (by decide) (fun h321 => ?_) (fun h321 => ?_)
        · refine gj_iload d_Mo_parcels_331 rfl ?_
          refine gj_istore d_Mo_parcels_333 (by decide) ?_
          refine gj_iincN d_Mo_parcels_335 rfl (by decide) ?_
          refine gj_goto (tgt := 212) d_Mo_parcels_338 (by decide) ?_
          refine gj_less (lc' := [(0, .ref (70)), (1, .int (nI j)), (3, .int (nI cnt)), (5, .int (((cs (a)) + (cs (b))) + (cs (c)))), (6, .int (nI a)), (7, .int (nI b)), (8, .int (nI (c + 1)))]) ⟨rfl, rfl, rfl, rfl, rfl, rfl, rfl, trivial⟩ ?_
          refine ih (c + 1) (((cs (a)) + (cs (b))) + (cs (c))) (by omega) ?_
          have e : (if (lw a + lw b + lw c ≤ gr j ∧ gr j ≤ hg a + hg b + hg c) ∧ (t < 0 ∨ cs a + cs b + cs c < t) then cs a + cs b + cs c else t) = ((cs (a)) + (cs (b))) + (cs (c)) := if_pos ⟨⟨Int32.not_lt.mp h247, Int32.not_lt.mp h279⟩, by first | exact Or.inl h321 | exact Or.inr (Int32.not_le.mp h328)⟩
          rw [← e]; exact hend
        · refine gj_iload d_Mo_parcels_324 rfl ?_
          refine gj_iload d_Mo_parcels_326 rfl ?_
          refine gj_icmp_ge (tgt := 335) d_Mo_parcels_328 (by decide) (fun h328 => ?_) (fun h328 => ?_)
          · refine gj_iincN d_Mo_parcels_335 rfl (by decide) ?_
            refine gj_goto (tgt := 212) d_Mo_parcels_338 (by decide) ?_
            refine gj_less (lc' := [(0, .ref (70)), (1, .int (nI j)), (3, .int (nI cnt)), (5, .int (t)), (6, .int (nI a)), (7, .int (nI b)), (8, .int (nI (c + 1)))]) ⟨rfl, rfl, rfl, rfl, rfl, rfl, rfl, trivial⟩ ?_
            refine ih (c + 1) (t) (by omega) ?_
            have e : (if (lw a + lw b + lw c ≤ gr j ∧ gr j ≤ hg a + hg b + hg c) ∧ (t < 0 ∨ cs a + cs b + cs c < t) then cs a + cs b + cs c else t) = t := if_neg (fun z => by first | exact absurd h247 (Int32.not_lt.mpr z.1.1) | exact absurd h279 (Int32.not_lt.mpr z.1.2) | exact z.2.elim h321 (fun u => absurd h328 (Int32.not_le.mpr u)))
            rw [← e]; exact hend
          · refine gj_iload d_Mo_parcels_331 rfl ?_
            refine gj_istore d_Mo_parcels_333 (by decide) ?_
            refine gj_iincN d_Mo_parcels_335 rfl (by decide) ?_
            refine gj_goto (tgt := 212) d_Mo_parcels_338 (by decide) ?_
            refine gj_less (lc' := [(0, .ref (70)), (1, .int (nI j)), (3, .int (nI cnt)), (5, .int (((cs (a)) + (cs (b))) + (cs (c)))), (6, .int (nI a)), (7, .int (nI b)), (8, .int (nI (c + 1)))]) ⟨rfl, rfl, rfl, rfl, rfl, rfl, rfl, trivial⟩ ?_
            refine ih (c + 1) (((cs (a)) + (cs (b))) + (cs (c))) (by omega) ?_
            have e : (if (lw a + lw b + lw c ≤ gr j ∧ gr j ≤ hg a + hg b + hg c) ∧ (t < 0 ∨ cs a + cs b + cs c < t) then cs a + cs b + cs c else t) = ((cs (a)) + (cs (b))) + (cs (c)) := if_pos ⟨⟨Int32.not_lt.mp h247, Int32.not_lt.mp h279⟩, by first | exact Or.inl h321 | exact Or.inr (Int32.not_le.mp h328)⟩
            rw [← e]; exact hend
set_option maxHeartbeats 2000000 in
theorem c_Mo_parcels_b {d K N n sg li nl ap ns dy : Nat} {tc : Int32} {C : Nat → va_E} {gr lw hg cs : Nat → Int32} {j cnt : Nat} (m70 : C (70) = .inr (5, [.int (tc), .ref (71), .int (nI sg), .int (nI li), .ref (72), .int (nI nl), .ref (73), .int (nI ap), .int (nI ns), .ref (74), .ref (75), .ref (76), .ref (77), .ref (78), .ref (79), .ref (80), .ref (81), .ref (82), .ref (83), .ref (84), .int (nI dy), .ref (85), .ref (86), .ref (87), .ref (88), .ref (89), .ref (90)])) (m76 : C (76) = .inl (0, 20, .inl gr)) (m88 : C (88) = .inl (0, 61, .inl lw)) (m89 : C (89) = .inl (0, 61, .inl hg)) (m90 : C (90) = .inl (0, 61, .inl cs)) (hj : j < 20) (hct : cnt ≤ 61) {a : Nat} (ha : a < cnt) {Q : gj_R → Prop} : ∀ (m : Nat) (b : Nat) (t : Int32), b + m = cnt → gj_G md_Mo_parcels (d + 1) K N 0 0 347 [(0, .ref (70)), (1, .int (nI j)), (3, .int (nI cnt)), (5, .int (pq_b lw hg cs (gr j) cnt a m b t)), (6, .int (nI a))] [] n C Q → gj_G md_Mo_parcels (d + 1) K N 0 0 203 [(0, .ref (70)), (1, .int (nI j)), (3, .int (nI cnt)), (5, .int (t)), (6, .int (nI a)), (7, .int (nI b))] [] (n) C Q := by
  intro m
  induction m with
  | zero =>
    intro b t hm hend
    refine gj_iload d_Mo_parcels_203 rfl ?_
    refine gj_iload_n d_Mo_parcels_205 rfl ?_
    refine gj_icmp_ge (tgt := 347) d_Mo_parcels_206 (by decide) (fun h206 => ?_) (fun h206 => by have m206 : ¬ (cnt ≤ b) := fun q => h206 ((nI_leI (a := cnt) (b := b) (by omega) (by omega)).mpr q); exact absurd (show cnt ≤ b from by omega) m206)
    have m206 : cnt ≤ b := (nI_leI (a := cnt) (b := b) (by omega) (by omega)).mp h206
    refine gj_less (lc' := [(0, .ref (70)), (1, .int (nI j)), (3, .int (nI cnt)), (5, .int (t)), (6, .int (nI a))]) ⟨rfl, rfl, rfl, rfl, rfl, trivial⟩ ?_
    exact hend
  | succ m ih =>
    intro b t hm hend
    refine gj_iload d_Mo_parcels_203 rfl ?_
    refine gj_iload_n d_Mo_parcels_205 rfl ?_
    refine gj_icmp_ge (tgt := 347) d_Mo_parcels_206 (by decide) (fun h206 => by have m206 : cnt ≤ b := (nI_leI (a := cnt) (b := b) (by omega) (by omega)).mp h206; exact absurd m206 (show ¬ (cnt ≤ b) from by omega)) (fun h206 => ?_)
    have m206 : ¬ (cnt ≤ b) := fun q => h206 ((nI_leI (a := cnt) (b := b) (by omega) (by omega)).mpr q)
    refine gj_kc (v := 0) d_Mo_parcels_209 (by decide) ?_
    refine gj_istore d_Mo_parcels_210 (by decide) ?_
    refine gj_less (lc' := [(0, .ref (70)), (1, .int (nI j)), (3, .int (nI cnt)), (5, .int (t)), (6, .int (nI a)), (7, .int (nI b)), (8, .int (nI 0))]) ⟨rfl, rfl, rfl, rfl, rfl, rfl, rfl, trivial⟩ ?_
    refine c_Mo_parcels_c m70 m76 m88 m89 m90 hj hct (by omega) (by omega) cnt 0 t (by omega) ?_
    refine gj_iincN d_Mo_parcels_341 rfl (by decide) ?_
    refine gj_goto (tgt := 203) d_Mo_parcels_344 (by decide) ?_
    refine gj_less (lc' := [(0, .ref (70)), (1, .int (nI j)), (3, .int (nI cnt)), (5, .int (pq_c lw hg cs (gr j) a b cnt 0 t)), (6, .int (nI a)), (7, .int (nI (b + 1)))]) ⟨rfl, rfl, rfl, rfl, rfl, rfl, trivial⟩ ?_
    exact ih (b + 1) _ (by omega) hend
set_option maxHeartbeats 2000000 in
theorem c_Mo_parcels_a {d K N n sg li nl ap ns dy : Nat} {tc : Int32} {C : Nat → va_E} {gr lw hg cs : Nat → Int32} {j cnt : Nat} (m70 : C (70) = .inr (5, [.int (tc), .ref (71), .int (nI sg), .int (nI li), .ref (72), .int (nI nl), .ref (73), .int (nI ap), .int (nI ns), .ref (74), .ref (75), .ref (76), .ref (77), .ref (78), .ref (79), .ref (80), .ref (81), .ref (82), .ref (83), .ref (84), .int (nI dy), .ref (85), .ref (86), .ref (87), .ref (88), .ref (89), .ref (90)])) (m76 : C (76) = .inl (0, 20, .inl gr)) (m88 : C (88) = .inl (0, 61, .inl lw)) (m89 : C (89) = .inl (0, 61, .inl hg)) (m90 : C (90) = .inl (0, 61, .inl cs)) (hj : j < 20) (hct : cnt ≤ 61) {Q : gj_R → Prop} : ∀ (m : Nat) (a : Nat) (t : Int32), a + m = cnt → Q (gj_iv (pq_a lw hg cs (gr j) cnt m a t), n, C) → gj_G md_Mo_parcels (d + 1) K N 0 0 194 [(0, .ref (70)), (1, .int (nI j)), (3, .int (nI cnt)), (5, .int (t)), (6, .int (nI a))] [] (n) C Q := by
  intro m
  induction m with
  | zero =>
    intro a t hm hend
    refine gj_iload d_Mo_parcels_194 rfl ?_
    refine gj_iload_n d_Mo_parcels_196 rfl ?_
    refine gj_icmp_ge (tgt := 353) d_Mo_parcels_197 (by decide) (fun h197 => ?_) (fun h197 => by have m197 : ¬ (cnt ≤ a) := fun q => h197 ((nI_leI (a := cnt) (b := a) (by omega) (by omega)).mpr q); exact absurd (show cnt ≤ a from by omega) m197)
    have m197 : cnt ≤ a := (nI_leI (a := cnt) (b := a) (by omega) (by omega)).mp h197
    refine gj_iload d_Mo_parcels_353 rfl ?_
    refine gj_iret rfl (Nat.zero_le _) (Nat.zero_le _) d_Mo_parcels_355 ?_
    exact hend
  | succ m ih =>
    intro a t hm hend
    refine gj_iload d_Mo_parcels_194 rfl ?_
    refine gj_iload_n d_Mo_parcels_196 rfl ?_
    refine gj_icmp_ge (tgt := 353) d_Mo_parcels_197 (by decide) (fun h197 => by have m197 : cnt ≤ a := (nI_leI (a := cnt) (b := a) (by omega) (by omega)).mp h197; exact absurd m197 (show ¬ (cnt ≤ a) from by omega)) (fun h197 => ?_)
    have m197 : ¬ (cnt ≤ a) := fun q => h197 ((nI_leI (a := cnt) (b := a) (by omega) (by omega)).mpr q)
    refine gj_kc (v := 0) d_Mo_parcels_200 (by decide) ?_
    refine gj_istore d_Mo_parcels_201 (by decide) ?_
    refine gj_less (lc' := [(0, .ref (70)), (1, .int (nI j)), (3, .int (nI cnt)), (5, .int (t)), (6, .int (nI a)), (7, .int (nI 0))]) ⟨rfl, rfl, rfl, rfl, rfl, rfl, trivial⟩ ?_
    refine c_Mo_parcels_b m70 m76 m88 m89 m90 hj hct (by omega) cnt 0 t (by omega) ?_
    refine gj_iincN d_Mo_parcels_347 rfl (by decide) ?_
    refine gj_goto (tgt := 194) d_Mo_parcels_350 (by decide) ?_
    refine gj_less (lc' := [(0, .ref (70)), (1, .int (nI j)), (3, .int (nI cnt)), (5, .int (pq_b lw hg cs (gr j) cnt a cnt 0 t)), (6, .int (nI (a + 1)))]) ⟨rfl, rfl, rfl, rfl, rfl, trivial⟩ ?_
    exact ih (a + 1) _ (by omega) hend
set_option maxHeartbeats 2000000 in
theorem c_Mo_parcels_ld {d K N n sg li nl ap ns dy j a : Nat} {tc : Int32} {lr zo gr : Nat → Int32} (hli : li ≤ 60) (hj : j < 20) {Q : gj_R → Prop} : ∀ (m : Nat) (k : Nat) (c : Nat) (b : Int32) (lw : Nat → Int32) (hg : Nat → Int32) (cs : Nat → Int32) (C : Nat → va_E), k + m = li → c ≤ k + 1 → C 70 = .inr (5, [.int (tc), .ref (71), .int (nI sg), .int (nI li), .ref (72), .int (nI nl), .ref (73), .int (nI ap), .int (nI ns), .ref (74), .ref (75), .ref (76), .ref (77), .ref (78), .ref (79), .ref (80), .ref (81), .ref (82), .ref (83), .ref (84), .int (nI dy), .ref (85), .ref (86), .ref (87), .ref (88), .ref (89), .ref (90)]) → C 72 = .inl (0, 300, .inl lr) → C 75 = .inl (0, 20, .inl zo) → C 76 = .inl (0, 20, .inl gr) → C 88 = .inl (0, 61, .inl lw) → C 89 = .inl (0, 61, .inl hg) → C 90 = .inl (0, 61, .inl cs) → (∀ (C2 : Nat → va_E), C2 88 = .inl (0, 61, .inl (pq_ld lr (nI a) (zo j) m k c b lw hg cs).2.1) → C2 89 = .inl (0, 61, .inl (pq_ld lr (nI a) (zo j) m k c b lw hg cs).2.2.1) → C2 90 = .inl (0, 61, .inl (pq_ld lr (nI a) (zo j) m k c b lw hg cs).2.2.2) → (∀ y, y ≠ 88 → y ≠ 89 → y ≠ 90 → C2 y = C y) → gj_G md_Mo_parcels (d + 1) K N 0 0 188 [(0, .ref 70), (1, .int (nI j)), (2, .int (nI a)), (3, .int (nI (pq_ld lr (nI a) (zo j) m k c b lw hg cs).1))] [] n C2 Q) → gj_G md_Mo_parcels (d + 1) K N 0 0 69 [(0, .ref (70)), (1, .int (nI j)), (2, .int (nI a)), (3, .int (nI c)), (4, .int (b)), (5, .int (nI k))] [] (n) C Q := by
  intro m
  induction m with
  | zero =>
    intro k c b lw hg cs C hm hc k70 k72 k75 k76 k88 k89 k90 hend
    refine gj_iload d_Mo_parcels_69 rfl ?_
    refine gj_aload_n d_Mo_parcels_71 rfl ?_
    refine gj_get d_Mo_parcels_72 gf_Mo_20 k70 rfl ?_
    refine gj_icmp_ge (tgt := 188) d_Mo_parcels_75 (by decide) (fun h75 => ?_) (fun h75 => by have m75 : ¬ (li ≤ k) := fun q => h75 ((nI_leI (a := li) (b := k) (by omega) (by omega)).mpr q); exact absurd (show li ≤ k from by omega) m75)
    have m75 : li ≤ k := (nI_leI (a := li) (b := k) (by omega) (by omega)).mp h75
    refine gj_less (lc' := [(0, .ref (70)), (1, .int (nI j)), (2, .int (nI a)), (3, .int (nI c))]) ⟨rfl, rfl, rfl, rfl, trivial⟩ ?_
    exact hend C k88 k89 k90 (fun _ _ _ _ => rfl)
  | succ m ih =>
    intro k c b lw hg cs C hm hc k70 k72 k75 k76 k88 k89 k90 hend
    refine gj_iload d_Mo_parcels_69 rfl ?_
    refine gj_aload_n d_Mo_parcels_71 rfl ?_
    refine gj_get d_Mo_parcels_72 gf_Mo_20 k70 rfl ?_
    refine gj_icmp_ge (tgt := 188) d_Mo_parcels_75 (by decide) (fun h75 => by have m75 : li ≤ k := (nI_leI (a := li) (b := k) (by omega) (by omega)).mp h75; exact absurd m75 (show ¬ (li ≤ k) from by omega)) (fun h75 => ?_)
    have m75 : ¬ (li ≤ k) := fun q => h75 ((nI_leI (a := li) (b := k) (by omega) (by omega)).mpr q)
    refine gj_aload_n d_Mo_parcels_78 rfl ?_
    refine gj_get d_Mo_parcels_79 gf_Mo_23 k70 rfl ?_
    refine gj_kc (v := 5) d_Mo_parcels_82 (by decide) ?_
    refine gj_iload d_Mo_parcels_83 rfl ?_
    refine gj_imul d_Mo_parcels_85 ?_
    refine gj_top (y := nI (5 * k)) (nI_mul (5) (k)) ?_
    refine gj_iald d_Mo_parcels_86 k72 rfl (vp_in_nI (by omega) (by decide)) ?_
    refine gj_top (y := lr (5 * k)) (congrArg lr (nI_clamp (by omega))) ?_
    refine gj_kb (v := 82) d_Mo_parcels_87 (by decide) ?_
    refine gj_icmp_ne (tgt := 182) d_Mo_parcels_89 (by decide) (fun h89 => ?_) (fun h89 => ?_)
    · refine gj_iincN d_Mo_parcels_182 rfl (by decide) ?_
      refine gj_goto (tgt := 69) d_Mo_parcels_185 (by decide) ?_
      refine gj_less (lc' := [(0, .ref (70)), (1, .int (nI j)), (2, .int (nI a)), (3, .int (nI c)), (4, .int (b)), (5, .int (nI (k + 1)))]) ⟨rfl, rfl, rfl, rfl, rfl, rfl, trivial⟩ ?_
      have e : pq_ld lr (nI a) (zo j) (m + 1) k c b lw hg cs = pq_ld lr (nI a) (zo j) m (k + 1) c b lw hg cs := if_neg (fun z => by first | exact h89 z.1 | exact h104 z.2.1 | exact h124 z.2.2)
      refine ih (k + 1) c b lw hg cs C (by omega) (by omega) k70 k72 k75 k76 k88 k89 k90 (fun C2 a1 a2 a3 a4 => ?_)
      have := hend C2 (by rw [e]; exact a1) (by rw [e]; exact a2) (by rw [e]; exact a3) a4
      rw [e] at this; exact this
    · refine gj_aload_n d_Mo_parcels_92 rfl ?_
      refine gj_get d_Mo_parcels_93 gf_Mo_23 k70 rfl ?_
      refine gj_kc (v := 5) d_Mo_parcels_96 (by decide) ?_
      refine gj_iload d_Mo_parcels_97 rfl ?_
      refine gj_imul d_Mo_parcels_99 ?_
      refine gj_top (y := nI (5 * k)) (nI_mul (5) (k)) ?_
      refine gj_kc (v := 1) d_Mo_parcels_100 (by decide) ?_
      refine gj_iadd d_Mo_parcels_101 ?_
      refine gj_top (y := nI ((5 * k) + 1)) (nI_add (5 * k) (1)) ?_
      refine gj_iald d_Mo_parcels_102 k72 rfl (vp_in_nI (by omega) (by decide)) ?_
      refine gj_top (y := lr ((5 * k) + 1)) (congrArg lr (nI_clamp (by omega))) ?_
      refine gj_iload_n d_Mo_parcels_103 rfl ?_
      refine gj_icmp_ne (tgt := 182) d_Mo_parcels_104 (by decide) (fun h104 => ?_) (fun h104 => ?_)
      · refine gj_iincN d_Mo_parcels_182 rfl (by decide) ?_
        refine gj_goto (tgt := 69) d_Mo_parcels_185 (by decide) ?_
        refine gj_less (lc' := [(0, .ref (70)), (1, .int (nI j)), (2, .int (nI a)), (3, .int (nI c)), (4, .int (b)), (5, .int (nI (k + 1)))]) ⟨rfl, rfl, rfl, rfl, rfl, rfl, trivial⟩ ?_
        have e : pq_ld lr (nI a) (zo j) (m + 1) k c b lw hg cs = pq_ld lr (nI a) (zo j) m (k + 1) c b lw hg cs := if_neg (fun z => by first | exact h89 z.1 | exact h104 z.2.1 | exact h124 z.2.2)
        refine ih (k + 1) c b lw hg cs C (by omega) (by omega) k70 k72 k75 k76 k88 k89 k90 (fun C2 a1 a2 a3 a4 => ?_)
        have := hend C2 (by rw [e]; exact a1) (by rw [e]; exact a2) (by rw [e]; exact a3) a4
        rw [e] at this; exact this
      · refine gj_aload_n d_Mo_parcels_107 rfl ?_
        refine gj_get d_Mo_parcels_108 gf_Mo_23 k70 rfl ?_
        refine gj_kc (v := 5) d_Mo_parcels_111 (by decide) ?_
        refine gj_iload d_Mo_parcels_112 rfl ?_
        refine gj_imul d_Mo_parcels_114 ?_
        refine gj_top (y := nI (5 * k)) (nI_mul (5) (k)) ?_
        refine gj_kc (v := 2) d_Mo_parcels_115 (by decide) ?_
        refine gj_iadd d_Mo_parcels_116 ?_
        refine gj_top (y := nI ((5 * k) + 2)) (nI_add (5 * k) (2)) ?_
        refine gj_iald d_Mo_parcels_117 k72 rfl (vp_in_nI (by omega) (by decide)) ?_
        refine gj_top (y := lr ((5 * k) + 2)) (congrArg lr (nI_clamp (by omega))) ?_
        refine gj_aload_n d_Mo_parcels_118 rfl ?_
        refine gj_get d_Mo_parcels_119 gf_Mo_42 k70 rfl ?_
        refine gj_iload_n d_Mo_parcels_122 rfl ?_
        refine gj_iald d_Mo_parcels_123 k75 rfl (vp_in_nI (by omega) (by decide)) ?_
        refine gj_top (y := zo (j)) (congrArg zo (nI_clamp (by omega))) ?_
        refine gj_icmp_ne (tgt := 182) d_Mo_parcels_124 (by decide) (fun h124 => ?_) (fun h124 => ?_)
        · refine gj_iincN d_Mo_parcels_182 rfl (by decide) ?_
          refine gj_goto (tgt := 69) d_Mo_parcels_185 (by decide) ?_
          refine gj_less (lc' := [(0, .ref (70)), (1, .int (nI j)), (2, .int (nI a)), (3, .int (nI c)), (4, .int (b)), (5, .int (nI (k + 1)))]) ⟨rfl, rfl, rfl, rfl, rfl, rfl, trivial⟩ ?_
          have e : pq_ld lr (nI a) (zo j) (m + 1) k c b lw hg cs = pq_ld lr (nI a) (zo j) m (k + 1) c b lw hg cs := if_neg (fun z => by first | exact h89 z.1 | exact h104 z.2.1 | exact h124 z.2.2)
          refine ih (k + 1) c b lw hg cs C (by omega) (by omega) k70 k72 k75 k76 k88 k89 k90 (fun C2 a1 a2 a3 a4 => ?_)
          have := hend C2 (by rw [e]; exact a1) (by rw [e]; exact a2) (by rw [e]; exact a3) a4
          rw [e] at this; exact this
        · refine gj_aload_n d_Mo_parcels_127 rfl ?_
          refine gj_get d_Mo_parcels_128 gf_Mo_84 k70 rfl ?_
          refine gj_iload_n d_Mo_parcels_131 rfl ?_
          refine gj_iload d_Mo_parcels_132 rfl ?_
          refine gj_kc (v := 1) d_Mo_parcels_134 (by decide) ?_
          refine gj_iadd d_Mo_parcels_135 ?_
          refine gj_iast d_Mo_parcels_136 k88 rfl (vp_in_nI (by omega) (by decide)) ?_
          obtain ⟨C1, eC1⟩ : ∃ Z0, Z0 = va_up C (88) (.inl (0, 61, .inl (upd lw (c) ((b) + (1))))) := ⟨_, rfl⟩
          refine gj_mem (eC1.trans (by rw [nI_clamp (by omega)])) ?_
          have f2 : C1 (70) = .inr (5, [.int (tc), .ref (71), .int (nI sg), .int (nI li), .ref (72), .int (nI nl), .ref (73), .int (nI ap), .int (nI ns), .ref (74), .ref (75), .ref (76), .ref (77), .ref (78), .ref (79), .ref (80), .ref (81), .ref (82), .ref (83), .ref (84), .int (nI dy), .ref (85), .ref (86), .ref (87), .ref (88), .ref (89), .ref (90)]) := by rw [eC1, va_up_ne _ _ (by omega)]; exact k70
          have f3 : C1 (72) = .inl (0, 300, .inl lr) := by rw [eC1, va_up_ne _ _ (by omega)]; exact k72
          have f4 : C1 (75) = .inl (0, 20, .inl zo) := by rw [eC1, va_up_ne _ _ (by omega)]; exact k75
          have f5 : C1 (76) = .inl (0, 20, .inl gr) := by rw [eC1, va_up_ne _ _ (by omega)]; exact k76
          have f6 : C1 (88) = .inl (0, 61, .inl (upd lw (c) ((b) + (1)))) := by rw [eC1]; exact va_up_self _ _ _
          have f7 : C1 (89) = .inl (0, 61, .inl hg) := by rw [eC1, va_up_ne _ _ (by omega)]; exact k89
          have f8 : C1 (90) = .inl (0, 61, .inl cs) := by rw [eC1, va_up_ne _ _ (by omega)]; exact k90
          refine gj_aload_n d_Mo_parcels_137 rfl ?_
          refine gj_get d_Mo_parcels_138 gf_Mo_87 f2 rfl ?_
          refine gj_iload_n d_Mo_parcels_141 rfl ?_
          refine gj_aload_n d_Mo_parcels_142 rfl ?_
          refine gj_get d_Mo_parcels_143 gf_Mo_23 f2 rfl ?_
          refine gj_kc (v := 5) d_Mo_parcels_146 (by decide) ?_
          refine gj_iload d_Mo_parcels_147 rfl ?_
          refine gj_imul d_Mo_parcels_149 ?_
          refine gj_top (y := nI (5 * k)) (nI_mul (5) (k)) ?_
          refine gj_kc (v := 3) d_Mo_parcels_150 (by decide) ?_
          refine gj_iadd d_Mo_parcels_151 ?_
          refine gj_top (y := nI ((5 * k) + 3)) (nI_add (5 * k) (3)) ?_
          refine gj_iald d_Mo_parcels_152 f3 rfl (vp_in_nI (by omega) (by decide)) ?_
          refine gj_top (y := lr ((5 * k) + 3)) (congrArg lr (nI_clamp (by omega))) ?_
          refine gj_iast d_Mo_parcels_153 f7 rfl (vp_in_nI (by omega) (by decide)) ?_
          obtain ⟨C9, eC9⟩ : ∃ Z0, Z0 = va_up C1 (89) (.inl (0, 61, .inl (upd hg (c) (lr ((5 * k) + 3))))) := ⟨_, rfl⟩
          refine gj_mem (eC9.trans (by rw [nI_clamp (by omega)])) ?_
          have f10 : C9 (70) = .inr (5, [.int (tc), .ref (71), .int (nI sg), .int (nI li), .ref (72), .int (nI nl), .ref (73), .int (nI ap), .int (nI ns), .ref (74), .ref (75), .ref (76), .ref (77), .ref (78), .ref (79), .ref (80), .ref (81), .ref (82), .ref (83), .ref (84), .int (nI dy), .ref (85), .ref (86), .ref (87), .ref (88), .ref (89), .ref (90)]) := by rw [eC9, va_up_ne _ _ (by omega)]; exact f2
          have f11 : C9 (72) = .inl (0, 300, .inl lr) := by rw [eC9, va_up_ne _ _ (by omega)]; exact f3
          have f12 : C9 (75) = .inl (0, 20, .inl zo) := by rw [eC9, va_up_ne _ _ (by omega)]; exact f4
          have f13 : C9 (76) = .inl (0, 20, .inl gr) := by rw [eC9, va_up_ne _ _ (by omega)]; exact f5
          have f14 : C9 (88) = .inl (0, 61, .inl (upd lw (c) ((b) + (1)))) := by rw [eC9, va_up_ne _ _ (by omega)]; exact f6
          have f15 : C9 (89) = .inl (0, 61, .inl (upd hg (c) (lr ((5 * k) + 3)))) := by rw [eC9]; exact va_up_self _ _ _
          have f16 : C9 (90) = .inl (0, 61, .inl cs) := by rw [eC9, va_up_ne _ _ (by omega)]; exact f8
          refine gj_aload_n d_Mo_parcels_154 rfl ?_
          refine gj_get d_Mo_parcels_155 gf_Mo_90 f10 rfl ?_
          refine gj_iload_n d_Mo_parcels_158 rfl ?_
          refine gj_aload_n d_Mo_parcels_159 rfl ?_
          refine gj_get d_Mo_parcels_160 gf_Mo_23 f10 rfl ?_
          refine gj_kc (v := 5) d_Mo_parcels_163 (by decide) ?_
          refine gj_iload d_Mo_parcels_164 rfl ?_
          refine gj_imul d_Mo_parcels_166 ?_
          refine gj_top (y := nI (5 * k)) (nI_mul (5) (k)) ?_
          refine gj_kc (v := 4) d_Mo_parcels_167 (by decide) ?_
          refine gj_iadd d_Mo_parcels_168 ?_
          refine gj_top (y := nI ((5 * k) + 4)) (nI_add (5 * k) (4)) ?_
          refine gj_iald d_Mo_parcels_169 f11 rfl (vp_in_nI (by omega) (by decide)) ?_
          refine gj_top (y := lr ((5 * k) + 4)) (congrArg lr (nI_clamp (by omega))) ?_
          refine gj_iast d_Mo_parcels_170 f16 rfl (vp_in_nI (by omega) (by decide)) ?_
          obtain ⟨C17, eC17⟩ : ∃ Z0, Z0 = va_up C9 (90) (.inl (0, 61, .inl (upd cs (c) (lr ((5 * k) + 4))))) := ⟨_, rfl⟩
          refine gj_mem (eC17.trans (by rw [nI_clamp (by omega)])) ?_
          have f18 : C17 (70) = .inr (5, [.int (tc), .ref (71), .int (nI sg), .int (nI li), .ref (72), .int (nI nl), .ref (73), .int (nI ap), .int (nI ns), .ref (74), .ref (75), .ref (76), .ref (77), .ref (78), .ref (79), .ref (80), .ref (81), .ref (82), .ref (83), .ref (84), .int (nI dy), .ref (85), .ref (86), .ref (87), .ref (88), .ref (89), .ref (90)]) := by rw [eC17, va_up_ne _ _ (by omega)]; exact f10
          have f19 : C17 (72) = .inl (0, 300, .inl lr) := by rw [eC17, va_up_ne _ _ (by omega)]; exact f11
          have f20 : C17 (75) = .inl (0, 20, .inl zo) := by rw [eC17, va_up_ne _ _ (by omega)]; exact f12
          have f21 : C17 (76) = .inl (0, 20, .inl gr) := by rw [eC17, va_up_ne _ _ (by omega)]; exact f13
          have f22 : C17 (88) = .inl (0, 61, .inl (upd lw (c) ((b) + (1)))) := by rw [eC17, va_up_ne _ _ (by omega)]; exact f14
          have f23 : C17 (89) = .inl (0, 61, .inl (upd hg (c) (lr ((5 * k) + 3)))) := by rw [eC17, va_up_ne _ _ (by omega)]; exact f15
          have f24 : C17 (90) = .inl (0, 61, .inl (upd cs (c) (lr ((5 * k) + 4)))) := by rw [eC17]; exact va_up_self _ _ _
          refine gj_aload_n d_Mo_parcels_171 rfl ?_
          refine gj_get d_Mo_parcels_172 gf_Mo_87 f18 rfl ?_
          refine gj_iload_n d_Mo_parcels_175 rfl ?_
          refine gj_iald d_Mo_parcels_176 f23 rfl (vp_in_nI (by omega) (by decide)) ?_
          refine gj_top (y := (upd hg (c) (lr ((5 * k) + 3))) (c)) (congrArg (upd hg (c) (lr ((5 * k) + 3))) (nI_clamp (by omega))) ?_
          refine gj_top (y := lr (5 * k + 3)) (upd_self _ _ _) ?_
          refine gj_istore d_Mo_parcels_177 (by decide) ?_
          refine gj_iincN d_Mo_parcels_179 rfl (by decide) ?_
          refine gj_iincN d_Mo_parcels_182 rfl (by decide) ?_
          refine gj_goto (tgt := 69) d_Mo_parcels_185 (by decide) ?_
          refine gj_less (lc' := [(0, .ref (70)), (1, .int (nI j)), (2, .int (nI a)), (3, .int (nI (c + 1))), (4, .int (lr (5 * k + 3))), (5, .int (nI (k + 1)))]) ⟨rfl, rfl, rfl, rfl, rfl, rfl, trivial⟩ ?_
          have e : pq_ld lr (nI a) (zo j) (m + 1) k c b lw hg cs = pq_ld lr (nI a) (zo j) m (k + 1) (c + 1) (lr (5 * k + 3)) (upd lw c (b + 1)) (upd hg c (lr (5 * k + 3))) (upd cs c (lr (5 * k + 4))) := if_pos ⟨h89, h104, h124⟩
          refine ih (k + 1) (c + 1) _ _ _ _ C17 (by omega) (by omega) f18 f19 f20 f21 f22 f23 f24 (fun C2 a1 a2 a3 a4 => ?_)
          have := hend C2 (by rw [e]; exact a1) (by rw [e]; exact a2) (by rw [e]; exact a3) (fun y c1 c2 c3 => (a4 y c1 c2 c3).trans (by rw [eC17, va_up_ne _ _ (by assumption), eC9, va_up_ne _ _ (by assumption), eC1, va_up_ne _ _ (by assumption)]))
          rw [e] at this; exact this
set_option maxHeartbeats 2000000 in
theorem c_Mo_parcels {d K N n sg li nl ap ns dy : Nat} {tc : Int32} {C : Nat → va_E} {lr go zo gr lw hg cs : Nat → Int32} (k70 : C (70) = .inr (5, [.int (tc), .ref (71), .int (nI sg), .int (nI li), .ref (72), .int (nI nl), .ref (73), .int (nI ap), .int (nI ns), .ref (74), .ref (75), .ref (76), .ref (77), .ref (78), .ref (79), .ref (80), .ref (81), .ref (82), .ref (83), .ref (84), .int (nI dy), .ref (85), .ref (86), .ref (87), .ref (88), .ref (89), .ref (90)])) (k72 : C (72) = .inl (0, 300, .inl lr)) (k75 : C (75) = .inl (0, 20, .inl zo)) (k76 : C (76) = .inl (0, 20, .inl gr)) (k88 : C (88) = .inl (0, 61, .inl lw)) (k89 : C (89) = .inl (0, 61, .inl hg)) (k90 : C (90) = .inl (0, 61, .inl cs)) (k74 : C (74) = .inl (2, 20, .inl go)) (hns : ns ≤ 20) (hli : li ≤ 60) {j a : Nat} (hj : j < ns) (hg0 : go j = 0) (ha : a < 10) : gj_G md_Mo_parcels (d + 1) K N 0 0 0 [(0, .ref (70)), (1, .int (nI j)), (2, .int (nI a))] [] (n) C (fun r => r.1 = gj_iv (pq_a (pq_ld lr (nI a) (zo j) li 0 1 0 (upd lw 0 0) (upd hg 0 0) (upd cs 0 0)).2.1 (pq_ld lr (nI a) (zo j) li 0 1 0 (upd lw 0 0) (upd hg 0 0) (upd cs 0 0)).2.2.1 (pq_ld lr (nI a) (zo j) li 0 1 0 (upd lw 0 0) (upd hg 0 0) (upd cs 0 0)).2.2.2 (gr j) (pq_ld lr (nI a) (zo j) li 0 1 0 (upd lw 0 0) (upd hg 0 0) (upd cs 0 0)).1 ((pq_ld lr (nI a) (zo j) li 0 1 0 (upd lw 0 0) (upd hg 0 0) (upd cs 0 0)).1 - 1) 1 (-1)) ∧ r.2.1 = n ∧ r.2.2 70 = .inr (5, [.int (0), .ref (71), .int (nI sg), .int (nI li), .ref (72), .int (nI nl), .ref (73), .int (nI ap), .int (nI ns), .ref (74), .ref (75), .ref (76), .ref (77), .ref (78), .ref (79), .ref (80), .ref (81), .ref (82), .ref (83), .ref (84), .int (nI dy), .ref (85), .ref (86), .ref (87), .ref (88), .ref (89), .ref (90)]) ∧ (∃ l2, r.2.2 88 = .inl (0, 61, .inl l2)) ∧ (∃ h2, r.2.2 89 = .inl (0, 61, .inl h2)) ∧ (∃ c2, r.2.2 90 = .inl (0, 61, .inl c2)) ∧ ∀ y, y ≠ 70 → y ≠ 88 → y ≠ 89 → y ≠ 90 → r.2.2 y = C y) := by
  refine gj_aload_n d_Mo_parcels_0 rfl ?_
  refine gj_aload_n d_Mo_parcels_1 rfl ?_
  refine gj_iload_n d_Mo_parcels_2 rfl ?_
  refine gj_callV (as := [.int (nI j)]) (rest := [.ref (70)]) (K1 := 0) (N1 := 0) d_Mo_parcels_3 mo_Mo_noShipment gw_725 gw_727 gw_14 k70 rfl pl_Mo_noShipment (Nat.le_of_ble_eq_true rfl) (Nat.le_of_ble_eq_true rfl) (Nat.zero_le _) (Nat.zero_le _) (c_Mo_noShipment k70 k74 hns hj hg0) (fun E n' C' _ h => by cases h) (fun v n' C' _ h => ?_)
  cases h
  refine gj_if_eq (tgt := 13) d_Mo_parcels_6 (by decide) (fun h6 => ?_) (fun h6 => absurd (by decide) h6)
  refine gj_iload_n d_Mo_parcels_13 rfl ?_
  refine gj_kc (v := 0) d_Mo_parcels_14 (by decide) ?_
  refine gj_kb (v := 9) d_Mo_parcels_15 (by decide) ?_
  refine gj_callS (as := [.int (nI a), .int (0), .int (9)]) (rest := [.ref (70)]) (K1 := 0) (N1 := 0) d_Mo_parcels_17 mo_Mo_not gw_687 gw_688 gw_25 pl_Mo_not (Nat.le_of_ble_eq_true rfl) (Nat.le_of_ble_eq_true rfl) (Nat.zero_le _) (Nat.zero_le _) (c_Mo_not (nI a) (0) (9)) (fun E n' C' _ h => by cases h) (fun v n' C' _ h => ?_)
  cases h
  refine gj_top (y := 0) (pm_nt0 (pm_of ha)) ?_
  refine gj_if_eq (tgt := 27) d_Mo_parcels_20 (by decide) (fun h20 => ?_) (fun h20 => absurd (by decide) h20)
  refine gj_kc (v := 0) d_Mo_parcels_27 (by decide) ?_
  refine gj_put d_Mo_parcels_28 gp_Mo_7 k70 (Nat.le_of_ble_eq_true rfl) (fun _ => rfl) (fun _ => rfl) ?_
  obtain ⟨C1, eC1⟩ : ∃ Z0, Z0 = va_up C (70) (.inr (5, [.int (0), .ref (71), .int (nI sg), .int (nI li), .ref (72), .int (nI nl), .ref (73), .int (nI ap), .int (nI ns), .ref (74), .ref (75), .ref (76), .ref (77), .ref (78), .ref (79), .ref (80), .ref (81), .ref (82), .ref (83), .ref (84), .int (nI dy), .ref (85), .ref (86), .ref (87), .ref (88), .ref (89), .ref (90)])) := ⟨_, rfl⟩
  refine gj_mem eC1 ?_
  have f2 : C1 (70) = .inr (5, [.int (0), .ref (71), .int (nI sg), .int (nI li), .ref (72), .int (nI nl), .ref (73), .int (nI ap), .int (nI ns), .ref (74), .ref (75), .ref (76), .ref (77), .ref (78), .ref (79), .ref (80), .ref (81), .ref (82), .ref (83), .ref (84), .int (nI dy), .ref (85), .ref (86), .ref (87), .ref (88), .ref (89), .ref (90)]) := by rw [eC1]; exact va_up_self _ _ _
  have f3 : C1 (72) = .inl (0, 300, .inl lr) := by rw [eC1, va_up_ne _ _ (by omega)]; exact k72
  have f4 : C1 (75) = .inl (0, 20, .inl zo) := by rw [eC1, va_up_ne _ _ (by omega)]; exact k75
  have f5 : C1 (76) = .inl (0, 20, .inl gr) := by rw [eC1, va_up_ne _ _ (by omega)]; exact k76
  have f6 : C1 (88) = .inl (0, 61, .inl lw) := by rw [eC1, va_up_ne _ _ (by omega)]; exact k88
  have f7 : C1 (89) = .inl (0, 61, .inl hg) := by rw [eC1, va_up_ne _ _ (by omega)]; exact k89
  have f8 : C1 (90) = .inl (0, 61, .inl cs) := by rw [eC1, va_up_ne _ _ (by omega)]; exact k90
  have f9 : C1 (74) = .inl (2, 20, .inl go) := by rw [eC1, va_up_ne _ _ (by omega)]; exact k74
  refine gj_aload_n d_Mo_parcels_31 rfl ?_
  refine gj_get d_Mo_parcels_32 gf_Mo_7 f2 rfl ?_
  refine gj_if_eq (tgt := 40) d_Mo_parcels_35 (by decide) (fun h35 => ?_) (fun h35 => absurd (by decide) h35)
  refine gj_kc (v := 1) d_Mo_parcels_40 (by decide) ?_
  refine gj_istore_n d_Mo_parcels_41 (by decide) ?_
  refine gj_aload_n d_Mo_parcels_42 rfl ?_
  refine gj_get d_Mo_parcels_43 gf_Mo_84 f2 rfl ?_
  refine gj_kc (v := 0) d_Mo_parcels_46 (by decide) ?_
  refine gj_kc (v := 0) d_Mo_parcels_47 (by decide) ?_
  refine gj_iast d_Mo_parcels_48 f6 rfl (vp_in_nI (n := 0) (by omega) (by decide)) ?_
  obtain ⟨C10, eC10⟩ : ∃ Z0, Z0 = va_up C1 (88) (.inl (0, 61, .inl (upd lw 0 (0)))) := ⟨_, rfl⟩
  refine gj_mem (eC10.trans (rfl)) ?_
  have f11 : C10 (70) = .inr (5, [.int (0), .ref (71), .int (nI sg), .int (nI li), .ref (72), .int (nI nl), .ref (73), .int (nI ap), .int (nI ns), .ref (74), .ref (75), .ref (76), .ref (77), .ref (78), .ref (79), .ref (80), .ref (81), .ref (82), .ref (83), .ref (84), .int (nI dy), .ref (85), .ref (86), .ref (87), .ref (88), .ref (89), .ref (90)]) := by rw [eC10, va_up_ne _ _ (by omega)]; exact f2
  have f12 : C10 (72) = .inl (0, 300, .inl lr) := by rw [eC10, va_up_ne _ _ (by omega)]; exact f3
  have f13 : C10 (75) = .inl (0, 20, .inl zo) := by rw [eC10, va_up_ne _ _ (by omega)]; exact f4
  have f14 : C10 (76) = .inl (0, 20, .inl gr) := by rw [eC10, va_up_ne _ _ (by omega)]; exact f5
  have f15 : C10 (88) = .inl (0, 61, .inl (upd lw 0 (0))) := by rw [eC10]; exact va_up_self _ _ _
  have f16 : C10 (89) = .inl (0, 61, .inl hg) := by rw [eC10, va_up_ne _ _ (by omega)]; exact f7
  have f17 : C10 (90) = .inl (0, 61, .inl cs) := by rw [eC10, va_up_ne _ _ (by omega)]; exact f8
  have f18 : C10 (74) = .inl (2, 20, .inl go) := by rw [eC10, va_up_ne _ _ (by omega)]; exact f9
  refine gj_aload_n d_Mo_parcels_49 rfl ?_
  refine gj_get d_Mo_parcels_50 gf_Mo_87 f11 rfl ?_
  refine gj_kc (v := 0) d_Mo_parcels_53 (by decide) ?_
  refine gj_kc (v := 0) d_Mo_parcels_54 (by decide) ?_
  refine gj_iast d_Mo_parcels_55 f16 rfl (vp_in_nI (n := 0) (by omega) (by decide)) ?_
  obtain ⟨C19, eC19⟩ : ∃ Z0, Z0 = va_up C10 (89) (.inl (0, 61, .inl (upd hg 0 (0)))) := ⟨_, rfl⟩
  refine gj_mem (eC19.trans (rfl)) ?_
  have f20 : C19 (70) = .inr (5, [.int (0), .ref (71), .int (nI sg), .int (nI li), .ref (72), .int (nI nl), .ref (73), .int (nI ap), .int (nI ns), .ref (74), .ref (75), .ref (76), .ref (77), .ref (78), .ref (79), .ref (80), .ref (81), .ref (82), .ref (83), .ref (84), .int (nI dy), .ref (85), .ref (86), .ref (87), .ref (88), .ref (89), .ref (90)]) := by rw [eC19, va_up_ne _ _ (by omega)]; exact f11
  have f21 : C19 (72) = .inl (0, 300, .inl lr) := by rw [eC19, va_up_ne _ _ (by omega)]; exact f12
  have f22 : C19 (75) = .inl (0, 20, .inl zo) := by rw [eC19, va_up_ne _ _ (by omega)]; exact f13
  have f23 : C19 (76) = .inl (0, 20, .inl gr) := by rw [eC19, va_up_ne _ _ (by omega)]; exact f14
  have f24 : C19 (88) = .inl (0, 61, .inl (upd lw 0 (0))) := by rw [eC19, va_up_ne _ _ (by omega)]; exact f15
  have f25 : C19 (89) = .inl (0, 61, .inl (upd hg 0 (0))) := by rw [eC19]; exact va_up_self _ _ _
  have f26 : C19 (90) = .inl (0, 61, .inl cs) := by rw [eC19, va_up_ne _ _ (by omega)]; exact f17
  have f27 : C19 (74) = .inl (2, 20, .inl go) := by rw [eC19, va_up_ne _ _ (by omega)]; exact f18
  refine gj_aload_n d_Mo_parcels_56 rfl ?_
  refine gj_get d_Mo_parcels_57 gf_Mo_90 f20 rfl ?_
  refine gj_kc (v := 0) d_Mo_parcels_60 (by decide) ?_
  refine gj_kc (v := 0) d_Mo_parcels_61 (by decide) ?_
  refine gj_iast d_Mo_parcels_62 f26 rfl (vp_in_nI (n := 0) (by omega) (by decide)) ?_
  obtain ⟨C28, eC28⟩ : ∃ Z0, Z0 = va_up C19 (90) (.inl (0, 61, .inl (upd cs 0 (0)))) := ⟨_, rfl⟩
  refine gj_mem (eC28.trans (rfl)) ?_
  have f29 : C28 (70) = .inr (5, [.int (0), .ref (71), .int (nI sg), .int (nI li), .ref (72), .int (nI nl), .ref (73), .int (nI ap), .int (nI ns), .ref (74), .ref (75), .ref (76), .ref (77), .ref (78), .ref (79), .ref (80), .ref (81), .ref (82), .ref (83), .ref (84), .int (nI dy), .ref (85), .ref (86), .ref (87), .ref (88), .ref (89), .ref (90)]) := by rw [eC28, va_up_ne _ _ (by omega)]; exact f20
  have f30 : C28 (72) = .inl (0, 300, .inl lr) := by rw [eC28, va_up_ne _ _ (by omega)]; exact f21
  have f31 : C28 (75) = .inl (0, 20, .inl zo) := by rw [eC28, va_up_ne _ _ (by omega)]; exact f22
  have f32 : C28 (76) = .inl (0, 20, .inl gr) := by rw [eC28, va_up_ne _ _ (by omega)]; exact f23
  have f33 : C28 (88) = .inl (0, 61, .inl (upd lw 0 (0))) := by rw [eC28, va_up_ne _ _ (by omega)]; exact f24
  have f34 : C28 (89) = .inl (0, 61, .inl (upd hg 0 (0))) := by rw [eC28, va_up_ne _ _ (by omega)]; exact f25
  have f35 : C28 (90) = .inl (0, 61, .inl (upd cs 0 (0))) := by rw [eC28]; exact va_up_self _ _ _
  have f36 : C28 (74) = .inl (2, 20, .inl go) := by rw [eC28, va_up_ne _ _ (by omega)]; exact f27
  refine gj_kc (v := 0) d_Mo_parcels_63 (by decide) ?_
  refine gj_istore d_Mo_parcels_64 (by decide) ?_
  refine gj_kc (v := 0) d_Mo_parcels_66 (by decide) ?_
  refine gj_istore d_Mo_parcels_67 (by decide) ?_
  refine gj_less (lc' := [(0, .ref (70)), (1, .int (nI j)), (2, .int (nI a)), (3, .int (nI 1)), (4, .int (0)), (5, .int (nI 0))]) ⟨rfl, rfl, rfl, rfl, rfl, rfl, trivial⟩ ?_
  have hle := pq_ld_le lr (nI a) (zo j) li 0 1 0 (upd lw 0 0) (upd hg 0 0) (upd cs 0 0)
  have zf : ∀ y, y ≠ 70 → y ≠ 88 → y ≠ 89 → y ≠ 90 → C28 y = C y := fun y c0 c1 c2 c3 => by rw [eC28, va_up_ne _ _ (by assumption), eC19, va_up_ne _ _ (by assumption), eC10, va_up_ne _ _ (by assumption), eC1, va_up_ne _ _ (by assumption)]
  refine c_Mo_parcels_ld hli (by omega) li 0 1 0 _ _ _ C28 (by omega) (by omega) f29 f30 f31 f32 f33 f34 f35 (fun Cq a1 a2 a3 a4 => ?_)
  have b70 : Cq 70 = .inr (5, [.int (0), .ref (71), .int (nI sg), .int (nI li), .ref (72), .int (nI nl), .ref (73), .int (nI ap), .int (nI ns), .ref (74), .ref (75), .ref (76), .ref (77), .ref (78), .ref (79), .ref (80), .ref (81), .ref (82), .ref (83), .ref (84), .int (nI dy), .ref (85), .ref (86), .ref (87), .ref (88), .ref (89), .ref (90)]) := (a4 _ (by decide) (by decide) (by decide)).trans f29
  have b76 : Cq 76 = .inl (0, 20, .inl gr) := (a4 _ (by decide) (by decide) (by decide)).trans f32
  refine gj_kc (v := (-1)) d_Mo_parcels_188 (by decide) ?_
  refine gj_istore d_Mo_parcels_189 (by decide) ?_
  refine gj_kc (v := 1) d_Mo_parcels_191 (by decide) ?_
  refine gj_istore d_Mo_parcels_192 (by decide) ?_
  refine gj_less (lc' := [(0, .ref (70)), (1, .int (nI j)), (3, .int (nI (pq_ld lr (nI a) (zo j) li 0 1 0 (upd lw 0 0) (upd hg 0 0) (upd cs 0 0)).1)), (5, .int (-1)), (6, .int (nI 1))]) ⟨rfl, rfl, rfl, rfl, rfl, trivial⟩ ?_
  exact c_Mo_parcels_a b70 b76 a1 a2 a3 (by omega) (by omega) ((pq_ld lr (nI a) (zo j) li 0 1 0 (upd lw 0 0) (upd hg 0 0) (upd cs 0 0)).1 - 1) 1 (-1) (by omega) ⟨rfl, rfl, b70, ⟨_, a1⟩, ⟨_, a2⟩, ⟨_, a3⟩, fun y c0 c1 c2 c3 => (a4 y c1 c2 c3).trans (zf y c0 c1 c2 c3)⟩
set_option maxHeartbeats 2000000 in
theorem c_Mo_init {d K N : Nat} {C : Nat → va_E} (m70 : C (70) = .inr (5, [.int (0), .null, .int (0), .int (0), .null, .int (0), .null, .int (0), .int (0), .null, .null, .null, .null, .null, .null, .null, .null, .null, .null, .null, .int (0), .null, .null, .null, .null, .null, .null])) (hK : 100 ≤ K) (hN : 3000 ≤ N) : gj_G md_Mo_init (d) K N 0 0 0 [(0, .ref (70))] [] (70) C (fun r => r.1 = .inl none ∧ r.2.1 = 90 ∧ r.2.2 70 = .inr (5, [.int (0), .ref (71), .int (0), .int (0), .ref (72), .int (0), .ref (73), .int (0), .int (0), .ref (74), .ref (75), .ref (76), .ref (77), .ref (78), .ref (79), .ref (80), .ref (81), .ref (82), .ref (83), .ref (84), .int (0), .ref (85), .ref (86), .ref (87), .ref (88), .ref (89), .ref (90)]) ∧ r.2.2 71 = .inl (0, 600, .inl (fun _ => 0)) ∧ r.2.2 72 = .inl (0, 300, .inl (fun _ => 0)) ∧ r.2.2 73 = .inl (0, 300, .inl (fun _ => 0)) ∧ r.2.2 74 = .inl (2, 20, .inl (fun _ => 0)) ∧ r.2.2 75 = .inl (0, 20, .inl (fun _ => 0)) ∧ r.2.2 76 = .inl (0, 20, .inl (fun _ => 0)) ∧ r.2.2 77 = .inl (0, 20, .inl (fun _ => 0)) ∧ r.2.2 78 = .inl (0, 20, .inl (fun _ => 0)) ∧ r.2.2 79 = .inl (0, 20, .inl (fun _ => 0)) ∧ r.2.2 80 = .inl (0, 20, .inl (fun _ => 0)) ∧ r.2.2 81 = .inl (0, 10, .inl (fun _ => 0)) ∧ r.2.2 82 = .inl (0, 40, .inl (fun _ => 0)) ∧ r.2.2 83 = .inl (0, 40, .inl (fun _ => 0)) ∧ r.2.2 84 = .inl (0, 40, .inl (fun _ => 0)) ∧ r.2.2 85 = .inl (0, 8, .inl (fun _ => 0)) ∧ r.2.2 86 = .inl (0, 8, .inl (fun _ => 0)) ∧ r.2.2 87 = .inl (0, 8, .inl (fun _ => 0)) ∧ r.2.2 88 = .inl (0, 61, .inl (fun _ => 0)) ∧ r.2.2 89 = .inl (0, 61, .inl (fun _ => 0)) ∧ r.2.2 90 = .inl (0, 61, .inl (fun _ => 0)) ∧ ∀ y, y < 70 → r.2.2 y = C y) := by
  refine gj_aload_n d_Mo_init_0 rfl ?_
  refine gj_objInit d_Mo_init_1 gw_595 gw_41 gw_42 (Nat.le_of_ble_eq_true rfl) ?_
  refine gj_aload_n d_Mo_init_4 rfl ?_
  refine gj_kc (v := 0) d_Mo_init_5 (by decide) ?_
  refine gj_put d_Mo_init_6 gp_Mo_7 m70 (Nat.le_of_ble_eq_true rfl) (fun _ => rfl) (fun _ => rfl) ?_
  obtain ⟨C1, eC1⟩ : ∃ Z0, Z0 = va_up C (70) (.inr (5, [.int (0), .null, .int (0), .int (0), .null, .int (0), .null, .int (0), .int (0), .null, .null, .null, .null, .null, .null, .null, .null, .null, .null, .null, .int (0), .null, .null, .null, .null, .null, .null])) := ⟨_, rfl⟩
  refine gj_mem eC1 ?_
  have f2 : C1 (70) = .inr (5, [.int (0), .null, .int (0), .int (0), .null, .int (0), .null, .int (0), .int (0), .null, .null, .null, .null, .null, .null, .null, .null, .null, .null, .null, .int (0), .null, .null, .null, .null, .null, .null]) := by rw [eC1]; exact va_up_self _ _ _
  refine gj_aload_n d_Mo_init_9 rfl ?_
  refine gj_ks (v := 600) d_Mo_init_10 (by decide) ?_
  refine gj_newI (kA := 0) (len := 600) d_Mo_init_13 gw_64 rfl (by decide) (by decide) (by omega) (by omega) (by omega) ?_
  obtain ⟨C3, eC3⟩ : ∃ Z0, Z0 = va_up C1 (71) (.inl (0, 600, .inl (fun _ => 0))) := ⟨_, rfl⟩
  refine gj_mem eC3 ?_
  have f4 : C3 (70) = .inr (5, [.int (0), .null, .int (0), .int (0), .null, .int (0), .null, .int (0), .int (0), .null, .null, .null, .null, .null, .null, .null, .null, .null, .null, .null, .int (0), .null, .null, .null, .null, .null, .null]) := by rw [eC3, va_up_ne _ _ (by omega)]; exact f2
  have f5 : C3 (71) = .inl (0, 600, .inl (fun _ => 0)) := by rw [eC3]; exact va_up_self _ _ _
  refine gj_putF d_Mo_init_15 gp_Mo_13 rfl f4 (Nat.le_of_ble_eq_true rfl) (fun _ => rfl) (fun _ => rfl) ?_
  obtain ⟨C6, eC6⟩ : ∃ Z0, Z0 = va_up C3 (70) (.inr (5, [.int (0), .ref (71), .int (0), .int (0), .null, .int (0), .null, .int (0), .int (0), .null, .null, .null, .null, .null, .null, .null, .null, .null, .null, .null, .int (0), .null, .null, .null, .null, .null, .null])) := ⟨_, rfl⟩
  refine gj_mem eC6 ?_
  have f7 : C6 (70) = .inr (5, [.int (0), .ref (71), .int (0), .int (0), .null, .int (0), .null, .int (0), .int (0), .null, .null, .null, .null, .null, .null, .null, .null, .null, .null, .null, .int (0), .null, .null, .null, .null, .null, .null]) := by rw [eC6]; exact va_up_self _ _ _
  have f8 : C6 (71) = .inl (0, 600, .inl (fun _ => 0)) := by rw [eC6, va_up_ne _ _ (by omega)]; exact f5
  refine gj_aload_n d_Mo_init_18 rfl ?_
  refine gj_kc (v := 0) d_Mo_init_19 (by decide) ?_
  refine gj_put d_Mo_init_20 gp_Mo_17 f7 (Nat.le_of_ble_eq_true rfl) (fun _ => rfl) (fun _ => rfl) ?_
  obtain ⟨C9, eC9⟩ : ∃ Z0, Z0 = va_up C6 (70) (.inr (5, [.int (0), .ref (71), .int (0), .int (0), .null, .int (0), .null, .int (0), .int (0), .null, .null, .null, .null, .null, .null, .null, .null, .null, .null, .null, .int (0), .null, .null, .null, .null, .null, .null])) := ⟨_, rfl⟩
  refine gj_mem eC9 ?_
  have f10 : C9 (70) = .inr (5, [.int (0), .ref (71), .int (0), .int (0), .null, .int (0), .null, .int (0), .int (0), .null, .null, .null, .null, .null, .null, .null, .null, .null, .null, .null, .int (0), .null, .null, .null, .null, .null, .null]) := by rw [eC9]; exact va_up_self _ _ _
  have f11 : C9 (71) = .inl (0, 600, .inl (fun _ => 0)) := by rw [eC9, va_up_ne _ _ (by omega)]; exact f8
  refine gj_aload_n d_Mo_init_23 rfl ?_
  refine gj_kc (v := 0) d_Mo_init_24 (by decide) ?_
  refine gj_put d_Mo_init_25 gp_Mo_20 f10 (Nat.le_of_ble_eq_true rfl) (fun _ => rfl) (fun _ => rfl) ?_
  obtain ⟨C12, eC12⟩ : ∃ Z0, Z0 = va_up C9 (70) (.inr (5, [.int (0), .ref (71), .int (0), .int (0), .null, .int (0), .null, .int (0), .int (0), .null, .null, .null, .null, .null, .null, .null, .null, .null, .null, .null, .int (0), .null, .null, .null, .null, .null, .null])) := ⟨_, rfl⟩
  refine gj_mem eC12 ?_
  have f13 : C12 (70) = .inr (5, [.int (0), .ref (71), .int (0), .int (0), .null, .int (0), .null, .int (0), .int (0), .null, .null, .null, .null, .null, .null, .null, .null, .null, .null, .null, .int (0), .null, .null, .null, .null, .null, .null]) := by rw [eC12]; exact va_up_self _ _ _
  have f14 : C12 (71) = .inl (0, 600, .inl (fun _ => 0)) := by rw [eC12, va_up_ne _ _ (by omega)]; exact f11
  refine gj_aload_n d_Mo_init_28 rfl ?_
  refine gj_ks (v := 300) d_Mo_init_29 (by decide) ?_
  refine gj_newI (kA := 0) (len := 300) d_Mo_init_32 gw_64 rfl (by decide) (by decide) (by omega) (by omega) (by omega) ?_
  obtain ⟨C15, eC15⟩ : ∃ Z0, Z0 = va_up C12 (72) (.inl (0, 300, .inl (fun _ => 0))) := ⟨_, rfl⟩
  refine gj_mem eC15 ?_
  have f16 : C15 (70) = .inr (5, [.int (0), .ref (71), .int (0), .int (0), .null, .int (0), .null, .int (0), .int (0), .null, .null, .null, .null, .null, .null, .null, .null, .null, .null, .null, .int (0), .null, .null, .null, .null, .null, .null]) := by rw [eC15, va_up_ne _ _ (by omega)]; exact f13
  have f17 : C15 (71) = .inl (0, 600, .inl (fun _ => 0)) := by rw [eC15, va_up_ne _ _ (by omega)]; exact f14
  have f18 : C15 (72) = .inl (0, 300, .inl (fun _ => 0)) := by rw [eC15]; exact va_up_self _ _ _
  refine gj_putF d_Mo_init_34 gp_Mo_23 rfl f16 (Nat.le_of_ble_eq_true rfl) (fun _ => rfl) (fun _ => rfl) ?_
  obtain ⟨C19, eC19⟩ : ∃ Z0, Z0 = va_up C15 (70) (.inr (5, [.int (0), .ref (71), .int (0), .int (0), .ref (72), .int (0), .null, .int (0), .int (0), .null, .null, .null, .null, .null, .null, .null, .null, .null, .null, .null, .int (0), .null, .null, .null, .null, .null, .null])) := ⟨_, rfl⟩
  refine gj_mem eC19 ?_
  have f20 : C19 (70) = .inr (5, [.int (0), .ref (71), .int (0), .int (0), .ref (72), .int (0), .null, .int (0), .int (0), .null, .null, .null, .null, .null, .null, .null, .null, .null, .null, .null, .int (0), .null, .null, .null, .null, .null, .null]) := by rw [eC19]; exact va_up_self _ _ _
  have f21 : C19 (71) = .inl (0, 600, .inl (fun _ => 0)) := by rw [eC19, va_up_ne _ _ (by omega)]; exact f17
  have f22 : C19 (72) = .inl (0, 300, .inl (fun _ => 0)) := by rw [eC19, va_up_ne _ _ (by omega)]; exact f18
  refine gj_aload_n d_Mo_init_37 rfl ?_
  refine gj_kc (v := 0) d_Mo_init_38 (by decide) ?_
  refine gj_put d_Mo_init_39 gp_Mo_26 f20 (Nat.le_of_ble_eq_true rfl) (fun _ => rfl) (fun _ => rfl) ?_
  obtain ⟨C23, eC23⟩ : ∃ Z0, Z0 = va_up C19 (70) (.inr (5, [.int (0), .ref (71), .int (0), .int (0), .ref (72), .int (0), .null, .int (0), .int (0), .null, .null, .null, .null, .null, .null, .null, .null, .null, .null, .null, .int (0), .null, .null, .null, .null, .null, .null])) := ⟨_, rfl⟩
  refine gj_mem eC23 ?_
  have f24 : C23 (70) = .inr (5, [.int (0), .ref (71), .int (0), .int (0), .ref (72), .int (0), .null, .int (0), .int (0), .null, .null, .null, .null, .null, .null, .null, .null, .null, .null, .null, .int (0), .null, .null, .null, .null, .null, .null]) := by rw [eC23]; exact va_up_self _ _ _
  have f25 : C23 (71) = .inl (0, 600, .inl (fun _ => 0)) := by rw [eC23, va_up_ne _ _ (by omega)]; exact f21
  have f26 : C23 (72) = .inl (0, 300, .inl (fun _ => 0)) := by rw [eC23, va_up_ne _ _ (by omega)]; exact f22
  refine gj_aload_n d_Mo_init_42 rfl ?_
  refine gj_ks (v := 300) d_Mo_init_43 (by decide) ?_
  refine gj_newI (kA := 0) (len := 300) d_Mo_init_46 gw_64 rfl (by decide) (by decide) (by omega) (by omega) (by omega) ?_
  obtain ⟨C27, eC27⟩ : ∃ Z0, Z0 = va_up C23 (73) (.inl (0, 300, .inl (fun _ => 0))) := ⟨_, rfl⟩
  refine gj_mem eC27 ?_
  have f28 : C27 (70) = .inr (5, [.int (0), .ref (71), .int (0), .int (0), .ref (72), .int (0), .null, .int (0), .int (0), .null, .null, .null, .null, .null, .null, .null, .null, .null, .null, .null, .int (0), .null, .null, .null, .null, .null, .null]) := by rw [eC27, va_up_ne _ _ (by omega)]; exact f24
  have f29 : C27 (71) = .inl (0, 600, .inl (fun _ => 0)) := by rw [eC27, va_up_ne _ _ (by omega)]; exact f25
  have f30 : C27 (72) = .inl (0, 300, .inl (fun _ => 0)) := by rw [eC27, va_up_ne _ _ (by omega)]; exact f26
  have f31 : C27 (73) = .inl (0, 300, .inl (fun _ => 0)) := by rw [eC27]; exact va_up_self _ _ _
  refine gj_putF d_Mo_init_48 gp_Mo_29 rfl f28 (Nat.le_of_ble_eq_true rfl) (fun _ => rfl) (fun _ => rfl) ?_
  obtain ⟨C32, eC32⟩ : ∃ Z0, Z0 = va_up C27 (70) (.inr (5, [.int (0), .ref (71), .int (0), .int (0), .ref (72), .int (0), .ref (73), .int (0), .int (0), .null, .null, .null, .null, .null, .null, .null, .null, .null, .null, .null, .int (0), .null, .null, .null, .null, .null, .null])) := ⟨_, rfl⟩
  refine gj_mem eC32 ?_
  have f33 : C32 (70) = .inr (5, [.int (0), .ref (71), .int (0), .int (0), .ref (72), .int (0), .ref (73), .int (0), .int (0), .null, .null, .null, .null, .null, .null, .null, .null, .null, .null, .null, .int (0), .null, .null, .null, .null, .null, .null]) := by rw [eC32]; exact va_up_self _ _ _
  have f34 : C32 (71) = .inl (0, 600, .inl (fun _ => 0)) := by rw [eC32, va_up_ne _ _ (by omega)]; exact f29
  have f35 : C32 (72) = .inl (0, 300, .inl (fun _ => 0)) := by rw [eC32, va_up_ne _ _ (by omega)]; exact f30
  have f36 : C32 (73) = .inl (0, 300, .inl (fun _ => 0)) := by rw [eC32, va_up_ne _ _ (by omega)]; exact f31
  refine gj_aload_n d_Mo_init_51 rfl ?_
  refine gj_kc (v := 0) d_Mo_init_52 (by decide) ?_
  refine gj_put d_Mo_init_53 gp_Mo_32 f33 (Nat.le_of_ble_eq_true rfl) (fun _ => rfl) (fun _ => rfl) ?_
  obtain ⟨C37, eC37⟩ : ∃ Z0, Z0 = va_up C32 (70) (.inr (5, [.int (0), .ref (71), .int (0), .int (0), .ref (72), .int (0), .ref (73), .int (0), .int (0), .null, .null, .null, .null, .null, .null, .null, .null, .null, .null, .null, .int (0), .null, .null, .null, .null, .null, .null])) := ⟨_, rfl⟩
  refine gj_mem eC37 ?_
  have f38 : C37 (70) = .inr (5, [.int (0), .ref (71), .int (0), .int (0), .ref (72), .int (0), .ref (73), .int (0), .int (0), .null, .null, .null, .null, .null, .null, .null, .null, .null, .null, .null, .int (0), .null, .null, .null, .null, .null, .null]) := by rw [eC37]; exact va_up_self _ _ _
  have f39 : C37 (71) = .inl (0, 600, .inl (fun _ => 0)) := by rw [eC37, va_up_ne _ _ (by omega)]; exact f34
  have f40 : C37 (72) = .inl (0, 300, .inl (fun _ => 0)) := by rw [eC37, va_up_ne _ _ (by omega)]; exact f35
  have f41 : C37 (73) = .inl (0, 300, .inl (fun _ => 0)) := by rw [eC37, va_up_ne _ _ (by omega)]; exact f36
  refine gj_aload_n d_Mo_init_56 rfl ?_
  refine gj_kc (v := 0) d_Mo_init_57 (by decide) ?_
  refine gj_put d_Mo_init_58 gp_Mo_35 f38 (Nat.le_of_ble_eq_true rfl) (fun _ => rfl) (fun _ => rfl) ?_
  obtain ⟨C42, eC42⟩ : ∃ Z0, Z0 = va_up C37 (70) (.inr (5, [.int (0), .ref (71), .int (0), .int (0), .ref (72), .int (0), .ref (73), .int (0), .int (0), .null, .null, .null, .null, .null, .null, .null, .null, .null, .null, .null, .int (0), .null, .null, .null, .null, .null, .null])) := ⟨_, rfl⟩
  refine gj_mem eC42 ?_
  have f43 : C42 (70) = .inr (5, [.int (0), .ref (71), .int (0), .int (0), .ref (72), .int (0), .ref (73), .int (0), .int (0), .null, .null, .null, .null, .null, .null, .null, .null, .null, .null, .null, .int (0), .null, .null, .null, .null, .null, .null]) := by rw [eC42]; exact va_up_self _ _ _
  have f44 : C42 (71) = .inl (0, 600, .inl (fun _ => 0)) := by rw [eC42, va_up_ne _ _ (by omega)]; exact f39
  have f45 : C42 (72) = .inl (0, 300, .inl (fun _ => 0)) := by rw [eC42, va_up_ne _ _ (by omega)]; exact f40
  have f46 : C42 (73) = .inl (0, 300, .inl (fun _ => 0)) := by rw [eC42, va_up_ne _ _ (by omega)]; exact f41
  refine gj_aload_n d_Mo_init_61 rfl ?_
  refine gj_kb (v := 20) d_Mo_init_62 (by decide) ?_
  refine gj_newZ (kA := 2) (len := 20) d_Mo_init_64 gw_678 rfl (by decide) (by decide) (by omega) (by omega) (by omega) ?_
  obtain ⟨C47, eC47⟩ : ∃ Z0, Z0 = va_up C42 (74) (.inl (2, 20, .inl (fun _ => 0))) := ⟨_, rfl⟩
  refine gj_mem eC47 ?_
  have f48 : C47 (70) = .inr (5, [.int (0), .ref (71), .int (0), .int (0), .ref (72), .int (0), .ref (73), .int (0), .int (0), .null, .null, .null, .null, .null, .null, .null, .null, .null, .null, .null, .int (0), .null, .null, .null, .null, .null, .null]) := by rw [eC47, va_up_ne _ _ (by omega)]; exact f43
  have f49 : C47 (71) = .inl (0, 600, .inl (fun _ => 0)) := by rw [eC47, va_up_ne _ _ (by omega)]; exact f44
  have f50 : C47 (72) = .inl (0, 300, .inl (fun _ => 0)) := by rw [eC47, va_up_ne _ _ (by omega)]; exact f45
  have f51 : C47 (73) = .inl (0, 300, .inl (fun _ => 0)) := by rw [eC47, va_up_ne _ _ (by omega)]; exact f46
  have f52 : C47 (74) = .inl (2, 20, .inl (fun _ => 0)) := by rw [eC47]; exact va_up_self _ _ _
  refine gj_putF d_Mo_init_66 gp_Mo_38 rfl f48 (Nat.le_of_ble_eq_true rfl) (fun _ => rfl) (fun _ => rfl) ?_
  obtain ⟨C53, eC53⟩ : ∃ Z0, Z0 = va_up C47 (70) (.inr (5, [.int (0), .ref (71), .int (0), .int (0), .ref (72), .int (0), .ref (73), .int (0), .int (0), .ref (74), .null, .null, .null, .null, .null, .null, .null, .null, .null, .null, .int (0), .null, .null, .null, .null, .null, .null])) := ⟨_, rfl⟩
  refine gj_mem eC53 ?_
  have f54 : C53 (70) = .inr (5, [.int (0), .ref (71), .int (0), .int (0), .ref (72), .int (0), .ref (73), .int (0), .int (0), .ref (74), .null, .null, .null, .null, .null, .null, .null, .null, .null, .null, .int (0), .null, .null, .null, .null, .null, .null]) := by rw [eC53]; exact va_up_self _ _ _
  have f55 : C53 (71) = .inl (0, 600, .inl (fun _ => 0)) := by rw [eC53, va_up_ne _ _ (by omega)]; exact f49
  have f56 : C53 (72) = .inl (0, 300, .inl (fun _ => 0)) := by rw [eC53, va_up_ne _ _ (by omega)]; exact f50
  have f57 : C53 (73) = .inl (0, 300, .inl (fun _ => 0)) := by rw [eC53, va_up_ne _ _ (by omega)]; exact f51
  have f58 : C53 (74) = .inl (2, 20, .inl (fun _ => 0)) := by rw [eC53, va_up_ne _ _ (by omega)]; exact f52
  refine gj_aload_n d_Mo_init_69 rfl ?_
  refine gj_kb (v := 20) d_Mo_init_70 (by decide) ?_
  refine gj_newI (kA := 0) (len := 20) d_Mo_init_72 gw_64 rfl (by decide) (by decide) (by omega) (by omega) (by omega) ?_
  obtain ⟨C59, eC59⟩ : ∃ Z0, Z0 = va_up C53 (75) (.inl (0, 20, .inl (fun _ => 0))) := ⟨_, rfl⟩
  refine gj_mem eC59 ?_
  have f60 : C59 (70) = .inr (5, [.int (0), .ref (71), .int (0), .int (0), .ref (72), .int (0), .ref (73), .int (0), .int (0), .ref (74), .null, .null, .null, .null, .null, .null, .null, .null, .null, .null, .int (0), .null, .null, .null, .null, .null, .null]) := by rw [eC59, va_up_ne _ _ (by omega)]; exact f54
  have f61 : C59 (71) = .inl (0, 600, .inl (fun _ => 0)) := by rw [eC59, va_up_ne _ _ (by omega)]; exact f55
  have f62 : C59 (72) = .inl (0, 300, .inl (fun _ => 0)) := by rw [eC59, va_up_ne _ _ (by omega)]; exact f56
  have f63 : C59 (73) = .inl (0, 300, .inl (fun _ => 0)) := by rw [eC59, va_up_ne _ _ (by omega)]; exact f57
  have f64 : C59 (74) = .inl (2, 20, .inl (fun _ => 0)) := by rw [eC59, va_up_ne _ _ (by omega)]; exact f58
  have f65 : C59 (75) = .inl (0, 20, .inl (fun _ => 0)) := by rw [eC59]; exact va_up_self _ _ _
  refine gj_putF d_Mo_init_74 gp_Mo_42 rfl f60 (Nat.le_of_ble_eq_true rfl) (fun _ => rfl) (fun _ => rfl) ?_
  obtain ⟨C66, eC66⟩ : ∃ Z0, Z0 = va_up C59 (70) (.inr (5, [.int (0), .ref (71), .int (0), .int (0), .ref (72), .int (0), .ref (73), .int (0), .int (0), .ref (74), .ref (75), .null, .null, .null, .null, .null, .null, .null, .null, .null, .int (0), .null, .null, .null, .null, .null, .null])) := ⟨_, rfl⟩
  refine gj_mem eC66 ?_
  have f67 : C66 (70) = .inr (5, [.int (0), .ref (71), .int (0), .int (0), .ref (72), .int (0), .ref (73), .int (0), .int (0), .ref (74), .ref (75), .null, .null, .null, .null, .null, .null, .null, .null, .null, .int (0), .null, .null, .null, .null, .null, .null]) := by rw [eC66]; exact va_up_self _ _ _
  have f68 : C66 (71) = .inl (0, 600, .inl (fun _ => 0)) := by rw [eC66, va_up_ne _ _ (by omega)]; exact f61
  have f69 : C66 (72) = .inl (0, 300, .inl (fun _ => 0)) := by rw [eC66, va_up_ne _ _ (by omega)]; exact f62
  have f70 : C66 (73) = .inl (0, 300, .inl (fun _ => 0)) := by rw [eC66, va_up_ne _ _ (by omega)]; exact f63
  have f71 : C66 (74) = .inl (2, 20, .inl (fun _ => 0)) := by rw [eC66, va_up_ne _ _ (by omega)]; exact f64
  have f72 : C66 (75) = .inl (0, 20, .inl (fun _ => 0)) := by rw [eC66, va_up_ne _ _ (by omega)]; exact f65
  refine gj_aload_n d_Mo_init_77 rfl ?_
  refine gj_kb (v := 20) d_Mo_init_78 (by decide) ?_
  refine gj_newI (kA := 0) (len := 20) d_Mo_init_80 gw_64 rfl (by decide) (by decide) (by omega) (by omega) (by omega) ?_
  obtain ⟨C73, eC73⟩ : ∃ Z0, Z0 = va_up C66 (76) (.inl (0, 20, .inl (fun _ => 0))) := ⟨_, rfl⟩
  refine gj_mem eC73 ?_
  have f74 : C73 (70) = .inr (5, [.int (0), .ref (71), .int (0), .int (0), .ref (72), .int (0), .ref (73), .int (0), .int (0), .ref (74), .ref (75), .null, .null, .null, .null, .null, .null, .null, .null, .null, .int (0), .null, .null, .null, .null, .null, .null]) := by rw [eC73, va_up_ne _ _ (by omega)]; exact f67
  have f75 : C73 (71) = .inl (0, 600, .inl (fun _ => 0)) := by rw [eC73, va_up_ne _ _ (by omega)]; exact f68
  have f76 : C73 (72) = .inl (0, 300, .inl (fun _ => 0)) := by rw [eC73, va_up_ne _ _ (by omega)]; exact f69
  have f77 : C73 (73) = .inl (0, 300, .inl (fun _ => 0)) := by rw [eC73, va_up_ne _ _ (by omega)]; exact f70
  have f78 : C73 (74) = .inl (2, 20, .inl (fun _ => 0)) := by rw [eC73, va_up_ne _ _ (by omega)]; exact f71
  have f79 : C73 (75) = .inl (0, 20, .inl (fun _ => 0)) := by rw [eC73, va_up_ne _ _ (by omega)]; exact f72
  have f80 : C73 (76) = .inl (0, 20, .inl (fun _ => 0)) := by rw [eC73]; exact va_up_self _ _ _
  refine gj_putF d_Mo_init_82 gp_Mo_45 rfl f74 (Nat.le_of_ble_eq_true rfl) (fun _ => rfl) (fun _ => rfl) ?_
  obtain ⟨C81, eC81⟩ : ∃ Z0, Z0 = va_up C73 (70) (.inr (5, [.int (0), .ref (71), .int (0), .int (0), .ref (72), .int (0), .ref (73), .int (0), .int (0), .ref (74), .ref (75), .ref (76), .null, .null, .null, .null, .null, .null, .null, .null, .int (0), .null, .null, .null, .null, .null, .null])) := ⟨_, rfl⟩
  refine gj_mem eC81 ?_
  have f82 : C81 (70) = .inr (5, [.int (0), .ref (71), .int (0), .int (0), .ref (72), .int (0), .ref (73), .int (0), .int (0), .ref (74), .ref (75), .ref (76), .null, .null, .null, .null, .null, .null, .null, .null, .int (0), .null, .null, .null, .null, .null, .null]) := by rw [eC81]; exact va_up_self _ _ _
  have f83 : C81 (71) = .inl (0, 600, .inl (fun _ => 0)) := by rw [eC81, va_up_ne _ _ (by omega)]; exact f75
  have f84 : C81 (72) = .inl (0, 300, .inl (fun _ => 0)) := by rw [eC81, va_up_ne _ _ (by omega)]; exact f76
  have f85 : C81 (73) = .inl (0, 300, .inl (fun _ => 0)) := by rw [eC81, va_up_ne _ _ (by omega)]; exact f77
  have f86 : C81 (74) = .inl (2, 20, .inl (fun _ => 0)) := by rw [eC81, va_up_ne _ _ (by omega)]; exact f78
  have f87 : C81 (75) = .inl (0, 20, .inl (fun _ => 0)) := by rw [eC81, va_up_ne _ _ (by omega)]; exact f79
  have f88 : C81 (76) = .inl (0, 20, .inl (fun _ => 0)) := by rw [eC81, va_up_ne _ _ (by omega)]; exact f80
  refine gj_aload_n d_Mo_init_85 rfl ?_
  refine gj_kb (v := 20) d_Mo_init_86 (by decide) ?_
  refine gj_newI (kA := 0) (len := 20) d_Mo_init_88 gw_64 rfl (by decide) (by decide) (by omega) (by omega) (by omega) ?_
  obtain ⟨C89, eC89⟩ : ∃ Z0, Z0 = va_up C81 (77) (.inl (0, 20, .inl (fun _ => 0))) := ⟨_, rfl⟩
  refine gj_mem eC89 ?_
  have f90 : C89 (70) = .inr (5, [.int (0), .ref (71), .int (0), .int (0), .ref (72), .int (0), .ref (73), .int (0), .int (0), .ref (74), .ref (75), .ref (76), .null, .null, .null, .null, .null, .null, .null, .null, .int (0), .null, .null, .null, .null, .null, .null]) := by rw [eC89, va_up_ne _ _ (by omega)]; exact f82
  have f91 : C89 (71) = .inl (0, 600, .inl (fun _ => 0)) := by rw [eC89, va_up_ne _ _ (by omega)]; exact f83
  have f92 : C89 (72) = .inl (0, 300, .inl (fun _ => 0)) := by rw [eC89, va_up_ne _ _ (by omega)]; exact f84
  have f93 : C89 (73) = .inl (0, 300, .inl (fun _ => 0)) := by rw [eC89, va_up_ne _ _ (by omega)]; exact f85
  have f94 : C89 (74) = .inl (2, 20, .inl (fun _ => 0)) := by rw [eC89, va_up_ne _ _ (by omega)]; exact f86
  have f95 : C89 (75) = .inl (0, 20, .inl (fun _ => 0)) := by rw [eC89, va_up_ne _ _ (by omega)]; exact f87
  have f96 : C89 (76) = .inl (0, 20, .inl (fun _ => 0)) := by rw [eC89, va_up_ne _ _ (by omega)]; exact f88
  have f97 : C89 (77) = .inl (0, 20, .inl (fun _ => 0)) := by rw [eC89]; exact va_up_self _ _ _
  refine gj_putF d_Mo_init_90 gp_Mo_48 rfl f90 (Nat.le_of_ble_eq_true rfl) (fun _ => rfl) (fun _ => rfl) ?_
  obtain ⟨C98, eC98⟩ : ∃ Z0, Z0 = va_up C89 (70) (.inr (5, [.int (0), .ref (71), .int (0), .int (0), .ref (72), .int (0), .ref (73), .int (0), .int (0), .ref (74), .ref (75), .ref (76), .ref (77), .null, .null, .null, .null, .null, .null, .null, .int (0), .null, .null, .null, .null, .null, .null])) := ⟨_, rfl⟩
  refine gj_mem eC98 ?_
  have f99 : C98 (70) = .inr (5, [.int (0), .ref (71), .int (0), .int (0), .ref (72), .int (0), .ref (73), .int (0), .int (0), .ref (74), .ref (75), .ref (76), .ref (77), .null, .null, .null, .null, .null, .null, .null, .int (0), .null, .null, .null, .null, .null, .null]) := by rw [eC98]; exact va_up_self _ _ _
  have f100 : C98 (71) = .inl (0, 600, .inl (fun _ => 0)) := by rw [eC98, va_up_ne _ _ (by omega)]; exact f91
  have f101 : C98 (72) = .inl (0, 300, .inl (fun _ => 0)) := by rw [eC98, va_up_ne _ _ (by omega)]; exact f92
  have f102 : C98 (73) = .inl (0, 300, .inl (fun _ => 0)) := by rw [eC98, va_up_ne _ _ (by omega)]; exact f93
  have f103 : C98 (74) = .inl (2, 20, .inl (fun _ => 0)) := by rw [eC98, va_up_ne _ _ (by omega)]; exact f94
  have f104 : C98 (75) = .inl (0, 20, .inl (fun _ => 0)) := by rw [eC98, va_up_ne _ _ (by omega)]; exact f95
  have f105 : C98 (76) = .inl (0, 20, .inl (fun _ => 0)) := by rw [eC98, va_up_ne _ _ (by omega)]; exact f96
  have f106 : C98 (77) = .inl (0, 20, .inl (fun _ => 0)) := by rw [eC98, va_up_ne _ _ (by omega)]; exact f97
  refine gj_aload_n d_Mo_init_93 rfl ?_
  refine gj_kb (v := 20) d_Mo_init_94 (by decide) ?_
  refine gj_newI (kA := 0) (len := 20) d_Mo_init_96 gw_64 rfl (by decide) (by decide) (by omega) (by omega) (by omega) ?_
  obtain ⟨C107, eC107⟩ : ∃ Z0, Z0 = va_up C98 (78) (.inl (0, 20, .inl (fun _ => 0))) := ⟨_, rfl⟩
  refine gj_mem eC107 ?_
  have f108 : C107 (70) = .inr (5, [.int (0), .ref (71), .int (0), .int (0), .ref (72), .int (0), .ref (73), .int (0), .int (0), .ref (74), .ref (75), .ref (76), .ref (77), .null, .null, .null, .null, .null, .null, .null, .int (0), .null, .null, .null, .null, .null, .null]) := by rw [eC107, va_up_ne _ _ (by omega)]; exact f99
  have f109 : C107 (71) = .inl (0, 600, .inl (fun _ => 0)) := by rw [eC107, va_up_ne _ _ (by omega)]; exact f100
  have f110 : C107 (72) = .inl (0, 300, .inl (fun _ => 0)) := by rw [eC107, va_up_ne _ _ (by omega)]; exact f101
  have f111 : C107 (73) = .inl (0, 300, .inl (fun _ => 0)) := by rw [eC107, va_up_ne _ _ (by omega)]; exact f102
  have f112 : C107 (74) = .inl (2, 20, .inl (fun _ => 0)) := by rw [eC107, va_up_ne _ _ (by omega)]; exact f103
  have f113 : C107 (75) = .inl (0, 20, .inl (fun _ => 0)) := by rw [eC107, va_up_ne _ _ (by omega)]; exact f104
  have f114 : C107 (76) = .inl (0, 20, .inl (fun _ => 0)) := by rw [eC107, va_up_ne _ _ (by omega)]; exact f105
  have f115 : C107 (77) = .inl (0, 20, .inl (fun _ => 0)) := by rw [eC107, va_up_ne _ _ (by omega)]; exact f106
  have f116 : C107 (78) = .inl (0, 20, .inl (fun _ => 0)) := by rw [eC107]; exact va_up_self _ _ _
  refine gj_putF d_Mo_init_98 gp_Mo_51 rfl f108 (Nat.le_of_ble_eq_true rfl) (fun _ => rfl) (fun _ => rfl) ?_
  obtain ⟨C117, eC117⟩ : ∃ Z0, Z0 = va_up C107 (70) (.inr (5, [.int (0), .ref (71), .int (0), .int (0), .ref (72), .int (0), .ref (73), .int (0), .int (0), .ref (74), .ref (75), .ref (76), .ref (77), .ref (78), .null, .null, .null, .null, .null, .null, .int (0), .null, .null, .null, .null, .null, .null])) := ⟨_, rfl⟩
  refine gj_mem eC117 ?_
  have f118 : C117 (70) = .inr (5, [.int (0), .ref (71), .int (0), .int (0), .ref (72), .int (0), .ref (73), .int (0), .int (0), .ref (74), .ref (75), .ref (76), .ref (77), .ref (78), .null, .null, .null, .null, .null, .null, .int (0), .null, .null, .null, .null, .null, .null]) := by rw [eC117]; exact va_up_self _ _ _
  have f119 : C117 (71) = .inl (0, 600, .inl (fun _ => 0)) := by rw [eC117, va_up_ne _ _ (by omega)]; exact f109
  have f120 : C117 (72) = .inl (0, 300, .inl (fun _ => 0)) := by rw [eC117, va_up_ne _ _ (by omega)]; exact f110
  have f121 : C117 (73) = .inl (0, 300, .inl (fun _ => 0)) := by rw [eC117, va_up_ne _ _ (by omega)]; exact f111
  have f122 : C117 (74) = .inl (2, 20, .inl (fun _ => 0)) := by rw [eC117, va_up_ne _ _ (by omega)]; exact f112
  have f123 : C117 (75) = .inl (0, 20, .inl (fun _ => 0)) := by rw [eC117, va_up_ne _ _ (by omega)]; exact f113
  have f124 : C117 (76) = .inl (0, 20, .inl (fun _ => 0)) := by rw [eC117, va_up_ne _ _ (by omega)]; exact f114
  have f125 : C117 (77) = .inl (0, 20, .inl (fun _ => 0)) := by rw [eC117, va_up_ne _ _ (by omega)]; exact f115
  have f126 : C117 (78) = .inl (0, 20, .inl (fun _ => 0)) := by rw [eC117, va_up_ne _ _ (by omega)]; exact f116
  refine gj_aload_n d_Mo_init_101 rfl ?_
  refine gj_kb (v := 20) d_Mo_init_102 (by decide) ?_
  refine gj_newI (kA := 0) (len := 20) d_Mo_init_104 gw_64 rfl (by decide) (by decide) (by omega) (by omega) (by omega) ?_
  obtain ⟨C127, eC127⟩ : ∃ Z0, Z0 = va_up C117 (79) (.inl (0, 20, .inl (fun _ => 0))) := ⟨_, rfl⟩
  refine gj_mem eC127 ?_
  have f128 : C127 (70) = .inr (5, [.int (0), .ref (71), .int (0), .int (0), .ref (72), .int (0), .ref (73), .int (0), .int (0), .ref (74), .ref (75), .ref (76), .ref (77), .ref (78), .null, .null, .null, .null, .null, .null, .int (0), .null, .null, .null, .null, .null, .null]) := by rw [eC127, va_up_ne _ _ (by omega)]; exact f118
  have f129 : C127 (71) = .inl (0, 600, .inl (fun _ => 0)) := by rw [eC127, va_up_ne _ _ (by omega)]; exact f119
  have f130 : C127 (72) = .inl (0, 300, .inl (fun _ => 0)) := by rw [eC127, va_up_ne _ _ (by omega)]; exact f120
  have f131 : C127 (73) = .inl (0, 300, .inl (fun _ => 0)) := by rw [eC127, va_up_ne _ _ (by omega)]; exact f121
  have f132 : C127 (74) = .inl (2, 20, .inl (fun _ => 0)) := by rw [eC127, va_up_ne _ _ (by omega)]; exact f122
  have f133 : C127 (75) = .inl (0, 20, .inl (fun _ => 0)) := by rw [eC127, va_up_ne _ _ (by omega)]; exact f123
  have f134 : C127 (76) = .inl (0, 20, .inl (fun _ => 0)) := by rw [eC127, va_up_ne _ _ (by omega)]; exact f124
  have f135 : C127 (77) = .inl (0, 20, .inl (fun _ => 0)) := by rw [eC127, va_up_ne _ _ (by omega)]; exact f125
  have f136 : C127 (78) = .inl (0, 20, .inl (fun _ => 0)) := by rw [eC127, va_up_ne _ _ (by omega)]; exact f126
  have f137 : C127 (79) = .inl (0, 20, .inl (fun _ => 0)) := by rw [eC127]; exact va_up_self _ _ _
  refine gj_putF d_Mo_init_106 gp_Mo_54 rfl f128 (Nat.le_of_ble_eq_true rfl) (fun _ => rfl) (fun _ => rfl) ?_
  obtain ⟨C138, eC138⟩ : ∃ Z0, Z0 = va_up C127 (70) (.inr (5, [.int (0), .ref (71), .int (0), .int (0), .ref (72), .int (0), .ref (73), .int (0), .int (0), .ref (74), .ref (75), .ref (76), .ref (77), .ref (78), .ref (79), .null, .null, .null, .null, .null, .int (0), .null, .null, .null, .null, .null, .null])) := ⟨_, rfl⟩
  refine gj_mem eC138 ?_
  have f139 : C138 (70) = .inr (5, [.int (0), .ref (71), .int (0), .int (0), .ref (72), .int (0), .ref (73), .int (0), .int (0), .ref (74), .ref (75), .ref (76), .ref (77), .ref (78), .ref (79), .null, .null, .null, .null, .null, .int (0), .null, .null, .null, .null, .null, .null]) := by rw [eC138]; exact va_up_self _ _ _
  have f140 : C138 (71) = .inl (0, 600, .inl (fun _ => 0)) := by rw [eC138, va_up_ne _ _ (by omega)]; exact f129
  have f141 : C138 (72) = .inl (0, 300, .inl (fun _ => 0)) := by rw [eC138, va_up_ne _ _ (by omega)]; exact f130
  have f142 : C138 (73) = .inl (0, 300, .inl (fun _ => 0)) := by rw [eC138, va_up_ne _ _ (by omega)]; exact f131
  have f143 : C138 (74) = .inl (2, 20, .inl (fun _ => 0)) := by rw [eC138, va_up_ne _ _ (by omega)]; exact f132
  have f144 : C138 (75) = .inl (0, 20, .inl (fun _ => 0)) := by rw [eC138, va_up_ne _ _ (by omega)]; exact f133
  have f145 : C138 (76) = .inl (0, 20, .inl (fun _ => 0)) := by rw [eC138, va_up_ne _ _ (by omega)]; exact f134
  have f146 : C138 (77) = .inl (0, 20, .inl (fun _ => 0)) := by rw [eC138, va_up_ne _ _ (by omega)]; exact f135
  have f147 : C138 (78) = .inl (0, 20, .inl (fun _ => 0)) := by rw [eC138, va_up_ne _ _ (by omega)]; exact f136
  have f148 : C138 (79) = .inl (0, 20, .inl (fun _ => 0)) := by rw [eC138, va_up_ne _ _ (by omega)]; exact f137
  refine gj_aload_n d_Mo_init_109 rfl ?_
  refine gj_kb (v := 20) d_Mo_init_110 (by decide) ?_
  refine gj_newI (kA := 0) (len := 20) d_Mo_init_112 gw_64 rfl (by decide) (by decide) (by omega) (by omega) (by omega) ?_
  obtain ⟨C149, eC149⟩ : ∃ Z0, Z0 = va_up C138 (80) (.inl (0, 20, .inl (fun _ => 0))) := ⟨_, rfl⟩
  refine gj_mem eC149 ?_
  have f150 : C149 (70) = .inr (5, [.int (0), .ref (71), .int (0), .int (0), .ref (72), .int (0), .ref (73), .int (0), .int (0), .ref (74), .ref (75), .ref (76), .ref (77), .ref (78), .ref (79), .null, .null, .null, .null, .null, .int (0), .null, .null, .null, .null, .null, .null]) := by rw [eC149, va_up_ne _ _ (by omega)]; exact f139
  have f151 : C149 (71) = .inl (0, 600, .inl (fun _ => 0)) := by rw [eC149, va_up_ne _ _ (by omega)]; exact f140
  have f152 : C149 (72) = .inl (0, 300, .inl (fun _ => 0)) := by rw [eC149, va_up_ne _ _ (by omega)]; exact f141
  have f153 : C149 (73) = .inl (0, 300, .inl (fun _ => 0)) := by rw [eC149, va_up_ne _ _ (by omega)]; exact f142
  have f154 : C149 (74) = .inl (2, 20, .inl (fun _ => 0)) := by rw [eC149, va_up_ne _ _ (by omega)]; exact f143
  have f155 : C149 (75) = .inl (0, 20, .inl (fun _ => 0)) := by rw [eC149, va_up_ne _ _ (by omega)]; exact f144
  have f156 : C149 (76) = .inl (0, 20, .inl (fun _ => 0)) := by rw [eC149, va_up_ne _ _ (by omega)]; exact f145
  have f157 : C149 (77) = .inl (0, 20, .inl (fun _ => 0)) := by rw [eC149, va_up_ne _ _ (by omega)]; exact f146
  have f158 : C149 (78) = .inl (0, 20, .inl (fun _ => 0)) := by rw [eC149, va_up_ne _ _ (by omega)]; exact f147
  have f159 : C149 (79) = .inl (0, 20, .inl (fun _ => 0)) := by rw [eC149, va_up_ne _ _ (by omega)]; exact f148
  have f160 : C149 (80) = .inl (0, 20, .inl (fun _ => 0)) := by rw [eC149]; exact va_up_self _ _ _
  refine gj_putF d_Mo_init_114 gp_Mo_57 rfl f150 (Nat.le_of_ble_eq_true rfl) (fun _ => rfl) (fun _ => rfl) ?_
  obtain ⟨C161, eC161⟩ : ∃ Z0, Z0 = va_up C149 (70) (.inr (5, [.int (0), .ref (71), .int (0), .int (0), .ref (72), .int (0), .ref (73), .int (0), .int (0), .ref (74), .ref (75), .ref (76), .ref (77), .ref (78), .ref (79), .ref (80), .null, .null, .null, .null, .int (0), .null, .null, .null, .null, .null, .null])) := ⟨_, rfl⟩
  refine gj_mem eC161 ?_
  have f162 : C161 (70) = .inr (5, [.int (0), .ref (71), .int (0), .int (0), .ref (72), .int (0), .ref (73), .int (0), .int (0), .ref (74), .ref (75), .ref (76), .ref (77), .ref (78), .ref (79), .ref (80), .null, .null, .null, .null, .int (0), .null, .null, .null, .null, .null, .null]) := by rw [eC161]; exact va_up_self _ _ _
  have f163 : C161 (71) = .inl (0, 600, .inl (fun _ => 0)) := by rw [eC161, va_up_ne _ _ (by omega)]; exact f151
  have f164 : C161 (72) = .inl (0, 300, .inl (fun _ => 0)) := by rw [eC161, va_up_ne _ _ (by omega)]; exact f152
  have f165 : C161 (73) = .inl (0, 300, .inl (fun _ => 0)) := by rw [eC161, va_up_ne _ _ (by omega)]; exact f153
  have f166 : C161 (74) = .inl (2, 20, .inl (fun _ => 0)) := by rw [eC161, va_up_ne _ _ (by omega)]; exact f154
  have f167 : C161 (75) = .inl (0, 20, .inl (fun _ => 0)) := by rw [eC161, va_up_ne _ _ (by omega)]; exact f155
  have f168 : C161 (76) = .inl (0, 20, .inl (fun _ => 0)) := by rw [eC161, va_up_ne _ _ (by omega)]; exact f156
  have f169 : C161 (77) = .inl (0, 20, .inl (fun _ => 0)) := by rw [eC161, va_up_ne _ _ (by omega)]; exact f157
  have f170 : C161 (78) = .inl (0, 20, .inl (fun _ => 0)) := by rw [eC161, va_up_ne _ _ (by omega)]; exact f158
  have f171 : C161 (79) = .inl (0, 20, .inl (fun _ => 0)) := by rw [eC161, va_up_ne _ _ (by omega)]; exact f159
  have f172 : C161 (80) = .inl (0, 20, .inl (fun _ => 0)) := by rw [eC161, va_up_ne _ _ (by omega)]; exact f160
  refine gj_aload_n d_Mo_init_117 rfl ?_
  refine gj_kb (v := 10) d_Mo_init_118 (by decide) ?_
  refine gj_newI (kA := 0) (len := 10) d_Mo_init_120 gw_64 rfl (by decide) (by decide) (by omega) (by omega) (by omega) ?_
  obtain ⟨C173, eC173⟩ : ∃ Z0, Z0 = va_up C161 (81) (.inl (0, 10, .inl (fun _ => 0))) := ⟨_, rfl⟩
  refine gj_mem eC173 ?_
  have f174 : C173 (70) = .inr (5, [.int (0), .ref (71), .int (0), .int (0), .ref (72), .int (0), .ref (73), .int (0), .int (0), .ref (74), .ref (75), .ref (76), .ref (77), .ref (78), .ref (79), .ref (80), .null, .null, .null, .null, .int (0), .null, .null, .null, .null, .null, .null]) := by rw [eC173, va_up_ne _ _ (by omega)]; exact f162
  have f175 : C173 (71) = .inl (0, 600, .inl (fun _ => 0)) := by rw [eC173, va_up_ne _ _ (by omega)]; exact f163
  have f176 : C173 (72) = .inl (0, 300, .inl (fun _ => 0)) := by rw [eC173, va_up_ne _ _ (by omega)]; exact f164
  have f177 : C173 (73) = .inl (0, 300, .inl (fun _ => 0)) := by rw [eC173, va_up_ne _ _ (by omega)]; exact f165
  have f178 : C173 (74) = .inl (2, 20, .inl (fun _ => 0)) := by rw [eC173, va_up_ne _ _ (by omega)]; exact f166
  have f179 : C173 (75) = .inl (0, 20, .inl (fun _ => 0)) := by rw [eC173, va_up_ne _ _ (by omega)]; exact f167
  have f180 : C173 (76) = .inl (0, 20, .inl (fun _ => 0)) := by rw [eC173, va_up_ne _ _ (by omega)]; exact f168
  have f181 : C173 (77) = .inl (0, 20, .inl (fun _ => 0)) := by rw [eC173, va_up_ne _ _ (by omega)]; exact f169
  have f182 : C173 (78) = .inl (0, 20, .inl (fun _ => 0)) := by rw [eC173, va_up_ne _ _ (by omega)]; exact f170
  have f183 : C173 (79) = .inl (0, 20, .inl (fun _ => 0)) := by rw [eC173, va_up_ne _ _ (by omega)]; exact f171
  have f184 : C173 (80) = .inl (0, 20, .inl (fun _ => 0)) := by rw [eC173, va_up_ne _ _ (by omega)]; exact f172
  have f185 : C173 (81) = .inl (0, 10, .inl (fun _ => 0)) := by rw [eC173]; exact va_up_self _ _ _
  refine gj_putF d_Mo_init_122 gp_Mo_60 rfl f174 (Nat.le_of_ble_eq_true rfl) (fun _ => rfl) (fun _ => rfl) ?_
  obtain ⟨C186, eC186⟩ : ∃ Z0, Z0 = va_up C173 (70) (.inr (5, [.int (0), .ref (71), .int (0), .int (0), .ref (72), .int (0), .ref (73), .int (0), .int (0), .ref (74), .ref (75), .ref (76), .ref (77), .ref (78), .ref (79), .ref (80), .ref (81), .null, .null, .null, .int (0), .null, .null, .null, .null, .null, .null])) := ⟨_, rfl⟩
  refine gj_mem eC186 ?_
  have f187 : C186 (70) = .inr (5, [.int (0), .ref (71), .int (0), .int (0), .ref (72), .int (0), .ref (73), .int (0), .int (0), .ref (74), .ref (75), .ref (76), .ref (77), .ref (78), .ref (79), .ref (80), .ref (81), .null, .null, .null, .int (0), .null, .null, .null, .null, .null, .null]) := by rw [eC186]; exact va_up_self _ _ _
  have f188 : C186 (71) = .inl (0, 600, .inl (fun _ => 0)) := by rw [eC186, va_up_ne _ _ (by omega)]; exact f175
  have f189 : C186 (72) = .inl (0, 300, .inl (fun _ => 0)) := by rw [eC186, va_up_ne _ _ (by omega)]; exact f176
  have f190 : C186 (73) = .inl (0, 300, .inl (fun _ => 0)) := by rw [eC186, va_up_ne _ _ (by omega)]; exact f177
  have f191 : C186 (74) = .inl (2, 20, .inl (fun _ => 0)) := by rw [eC186, va_up_ne _ _ (by omega)]; exact f178
  have f192 : C186 (75) = .inl (0, 20, .inl (fun _ => 0)) := by rw [eC186, va_up_ne _ _ (by omega)]; exact f179
  have f193 : C186 (76) = .inl (0, 20, .inl (fun _ => 0)) := by rw [eC186, va_up_ne _ _ (by omega)]; exact f180
  have f194 : C186 (77) = .inl (0, 20, .inl (fun _ => 0)) := by rw [eC186, va_up_ne _ _ (by omega)]; exact f181
  have f195 : C186 (78) = .inl (0, 20, .inl (fun _ => 0)) := by rw [eC186, va_up_ne _ _ (by omega)]; exact f182
  have f196 : C186 (79) = .inl (0, 20, .inl (fun _ => 0)) := by rw [eC186, va_up_ne _ _ (by omega)]; exact f183
  have f197 : C186 (80) = .inl (0, 20, .inl (fun _ => 0)) := by rw [eC186, va_up_ne _ _ (by omega)]; exact f184
  have f198 : C186 (81) = .inl (0, 10, .inl (fun _ => 0)) := by rw [eC186, va_up_ne _ _ (by omega)]; exact f185
  refine gj_aload_n d_Mo_init_125 rfl ?_
  refine gj_kb (v := 40) d_Mo_init_126 (by decide) ?_
  refine gj_newI (kA := 0) (len := 40) d_Mo_init_128 gw_64 rfl (by decide) (by decide) (by omega) (by omega) (by omega) ?_
  obtain ⟨C199, eC199⟩ : ∃ Z0, Z0 = va_up C186 (82) (.inl (0, 40, .inl (fun _ => 0))) := ⟨_, rfl⟩
  refine gj_mem eC199 ?_
  have f200 : C199 (70) = .inr (5, [.int (0), .ref (71), .int (0), .int (0), .ref (72), .int (0), .ref (73), .int (0), .int (0), .ref (74), .ref (75), .ref (76), .ref (77), .ref (78), .ref (79), .ref (80), .ref (81), .null, .null, .null, .int (0), .null, .null, .null, .null, .null, .null]) := by rw [eC199, va_up_ne _ _ (by omega)]; exact f187
  have f201 : C199 (71) = .inl (0, 600, .inl (fun _ => 0)) := by rw [eC199, va_up_ne _ _ (by omega)]; exact f188
  have f202 : C199 (72) = .inl (0, 300, .inl (fun _ => 0)) := by rw [eC199, va_up_ne _ _ (by omega)]; exact f189
  have f203 : C199 (73) = .inl (0, 300, .inl (fun _ => 0)) := by rw [eC199, va_up_ne _ _ (by omega)]; exact f190
  have f204 : C199 (74) = .inl (2, 20, .inl (fun _ => 0)) := by rw [eC199, va_up_ne _ _ (by omega)]; exact f191
  have f205 : C199 (75) = .inl (0, 20, .inl (fun _ => 0)) := by rw [eC199, va_up_ne _ _ (by omega)]; exact f192
  have f206 : C199 (76) = .inl (0, 20, .inl (fun _ => 0)) := by rw [eC199, va_up_ne _ _ (by omega)]; exact f193
  have f207 : C199 (77) = .inl (0, 20, .inl (fun _ => 0)) := by rw [eC199, va_up_ne _ _ (by omega)]; exact f194
  have f208 : C199 (78) = .inl (0, 20, .inl (fun _ => 0)) := by rw [eC199, va_up_ne _ _ (by omega)]; exact f195
  have f209 : C199 (79) = .inl (0, 20, .inl (fun _ => 0)) := by rw [eC199, va_up_ne _ _ (by omega)]; exact f196
  have f210 : C199 (80) = .inl (0, 20, .inl (fun _ => 0)) := by rw [eC199, va_up_ne _ _ (by omega)]; exact f197
  have f211 : C199 (81) = .inl (0, 10, .inl (fun _ => 0)) := by rw [eC199, va_up_ne _ _ (by omega)]; exact f198
  have f212 : C199 (82) = .inl (0, 40, .inl (fun _ => 0)) := by rw [eC199]; exact va_up_self _ _ _
  refine gj_putF d_Mo_init_130 gp_Mo_63 rfl f200 (Nat.le_of_ble_eq_true rfl) (fun _ => rfl) (fun _ => rfl) ?_
  obtain ⟨C213, eC213⟩ : ∃ Z0, Z0 = va_up C199 (70) (.inr (5, [.int (0), .ref (71), .int (0), .int (0), .ref (72), .int (0), .ref (73), .int (0), .int (0), .ref (74), .ref (75), .ref (76), .ref (77), .ref (78), .ref (79), .ref (80), .ref (81), .ref (82), .null, .null, .int (0), .null, .null, .null, .null, .null, .null])) := ⟨_, rfl⟩
  refine gj_mem eC213 ?_
  have f214 : C213 (70) = .inr (5, [.int (0), .ref (71), .int (0), .int (0), .ref (72), .int (0), .ref (73), .int (0), .int (0), .ref (74), .ref (75), .ref (76), .ref (77), .ref (78), .ref (79), .ref (80), .ref (81), .ref (82), .null, .null, .int (0), .null, .null, .null, .null, .null, .null]) := by rw [eC213]; exact va_up_self _ _ _
  have f215 : C213 (71) = .inl (0, 600, .inl (fun _ => 0)) := by rw [eC213, va_up_ne _ _ (by omega)]; exact f201
  have f216 : C213 (72) = .inl (0, 300, .inl (fun _ => 0)) := by rw [eC213, va_up_ne _ _ (by omega)]; exact f202
  have f217 : C213 (73) = .inl (0, 300, .inl (fun _ => 0)) := by rw [eC213, va_up_ne _ _ (by omega)]; exact f203
  have f218 : C213 (74) = .inl (2, 20, .inl (fun _ => 0)) := by rw [eC213, va_up_ne _ _ (by omega)]; exact f204
  have f219 : C213 (75) = .inl (0, 20, .inl (fun _ => 0)) := by rw [eC213, va_up_ne _ _ (by omega)]; exact f205
  have f220 : C213 (76) = .inl (0, 20, .inl (fun _ => 0)) := by rw [eC213, va_up_ne _ _ (by omega)]; exact f206
  have f221 : C213 (77) = .inl (0, 20, .inl (fun _ => 0)) := by rw [eC213, va_up_ne _ _ (by omega)]; exact f207
  have f222 : C213 (78) = .inl (0, 20, .inl (fun _ => 0)) := by rw [eC213, va_up_ne _ _ (by omega)]; exact f208
  have f223 : C213 (79) = .inl (0, 20, .inl (fun _ => 0)) := by rw [eC213, va_up_ne _ _ (by omega)]; exact f209
  have f224 : C213 (80) = .inl (0, 20, .inl (fun _ => 0)) := by rw [eC213, va_up_ne _ _ (by omega)]; exact f210
  have f225 : C213 (81) = .inl (0, 10, .inl (fun _ => 0)) := by rw [eC213, va_up_ne _ _ (by omega)]; exact f211
  have f226 : C213 (82) = .inl (0, 40, .inl (fun _ => 0)) := by rw [eC213, va_up_ne _ _ (by omega)]; exact f212
  refine gj_aload_n d_Mo_init_133 rfl ?_
  refine gj_kb (v := 40) d_Mo_init_134 (by decide) ?_
  refine gj_newI (kA := 0) (len := 40) d_Mo_init_136 gw_64 rfl (by decide) (by decide) (by omega) (by omega) (by omega) ?_
  obtain ⟨C227, eC227⟩ : ∃ Z0, Z0 = va_up C213 (83) (.inl (0, 40, .inl (fun _ => 0))) := ⟨_, rfl⟩
  refine gj_mem eC227 ?_
  have f228 : C227 (70) = .inr (5, [.int (0), .ref (71), .int (0), .int (0), .ref (72), .int (0), .ref (73), .int (0), .int (0), .ref (74), .ref (75), .ref (76), .ref (77), .ref (78), .ref (79), .ref (80), .ref (81), .ref (82), .null, .null, .int (0), .null, .null, .null, .null, .null, .null]) := by rw [eC227, va_up_ne _ _ (by omega)]; exact f214
  have f229 : C227 (71) = .inl (0, 600, .inl (fun _ => 0)) := by rw [eC227, va_up_ne _ _ (by omega)]; exact f215
  have f230 : C227 (72) = .inl (0, 300, .inl (fun _ => 0)) := by rw [eC227, va_up_ne _ _ (by omega)]; exact f216
  have f231 : C227 (73) = .inl (0, 300, .inl (fun _ => 0)) := by rw [eC227, va_up_ne _ _ (by omega)]; exact f217
  have f232 : C227 (74) = .inl (2, 20, .inl (fun _ => 0)) := by rw [eC227, va_up_ne _ _ (by omega)]; exact f218
  have f233 : C227 (75) = .inl (0, 20, .inl (fun _ => 0)) := by rw [eC227, va_up_ne _ _ (by omega)]; exact f219
  have f234 : C227 (76) = .inl (0, 20, .inl (fun _ => 0)) := by rw [eC227, va_up_ne _ _ (by omega)]; exact f220
  have f235 : C227 (77) = .inl (0, 20, .inl (fun _ => 0)) := by rw [eC227, va_up_ne _ _ (by omega)]; exact f221
  have f236 : C227 (78) = .inl (0, 20, .inl (fun _ => 0)) := by rw [eC227, va_up_ne _ _ (by omega)]; exact f222
  have f237 : C227 (79) = .inl (0, 20, .inl (fun _ => 0)) := by rw [eC227, va_up_ne _ _ (by omega)]; exact f223
  have f238 : C227 (80) = .inl (0, 20, .inl (fun _ => 0)) := by rw [eC227, va_up_ne _ _ (by omega)]; exact f224
  have f239 : C227 (81) = .inl (0, 10, .inl (fun _ => 0)) := by rw [eC227, va_up_ne _ _ (by omega)]; exact f225
  have f240 : C227 (82) = .inl (0, 40, .inl (fun _ => 0)) := by rw [eC227, va_up_ne _ _ (by omega)]; exact f226
  have f241 : C227 (83) = .inl (0, 40, .inl (fun _ => 0)) := by rw [eC227]; exact va_up_self _ _ _
  refine gj_putF d_Mo_init_138 gp_Mo_66 rfl f228 (Nat.le_of_ble_eq_true rfl) (fun _ => rfl) (fun _ => rfl) ?_
  obtain ⟨C242, eC242⟩ : ∃ Z0, Z0 = va_up C227 (70) (.inr (5, [.int (0), .ref (71), .int (0), .int (0), .ref (72), .int (0), .ref (73), .int (0), .int (0), .ref (74), .ref (75), .ref (76), .ref (77), .ref (78), .ref (79), .ref (80), .ref (81), .ref (82), .ref (83), .null, .int (0), .null, .null, .null, .null, .null, .null])) := ⟨_, rfl⟩
  refine gj_mem eC242 ?_
  have f243 : C242 (70) = .inr (5, [.int (0), .ref (71), .int (0), .int (0), .ref (72), .int (0), .ref (73), .int (0), .int (0), .ref (74), .ref (75), .ref (76), .ref (77), .ref (78), .ref (79), .ref (80), .ref (81), .ref (82), .ref (83), .null, .int (0), .null, .null, .null, .null, .null, .null]) := by rw [eC242]; exact va_up_self _ _ _
  have f244 : C242 (71) = .inl (0, 600, .inl (fun _ => 0)) := by rw [eC242, va_up_ne _ _ (by omega)]; exact f229
  have f245 : C242 (72) = .inl (0, 300, .inl (fun _ => 0)) := by rw [eC242, va_up_ne _ _ (by omega)]; exact f230
  have f246 : C242 (73) = .inl (0, 300, .inl (fun _ => 0)) := by rw [eC242, va_up_ne _ _ (by omega)]; exact f231
  have f247 : C242 (74) = .inl (2, 20, .inl (fun _ => 0)) := by rw [eC242, va_up_ne _ _ (by omega)]; exact f232
  have f248 : C242 (75) = .inl (0, 20, .inl (fun _ => 0)) := by rw [eC242, va_up_ne _ _ (by omega)]; exact f233
  have f249 : C242 (76) = .inl (0, 20, .inl (fun _ => 0)) := by rw [eC242, va_up_ne _ _ (by omega)]; exact f234
  have f250 : C242 (77) = .inl (0, 20, .inl (fun _ => 0)) := by rw [eC242, va_up_ne _ _ (by omega)]; exact f235
  have f251 : C242 (78) = .inl (0, 20, .inl (fun _ => 0)) := by rw [eC242, va_up_ne _ _ (by omega)]; exact f236
  have f252 : C242 (79) = .inl (0, 20, .inl (fun _ => 0)) := by rw [eC242, va_up_ne _ _ (by omega)]; exact f237
  have f253 : C242 (80) = .inl (0, 20, .inl (fun _ => 0)) := by rw [eC242, va_up_ne _ _ (by omega)]; exact f238
  have f254 : C242 (81) = .inl (0, 10, .inl (fun _ => 0)) := by rw [eC242, va_up_ne _ _ (by omega)]; exact f239
  have f255 : C242 (82) = .inl (0, 40, .inl (fun _ => 0)) := by rw [eC242, va_up_ne _ _ (by omega)]; exact f240
  have f256 : C242 (83) = .inl (0, 40, .inl (fun _ => 0)) := by rw [eC242, va_up_ne _ _ (by omega)]; exact f241
  refine gj_aload_n d_Mo_init_141 rfl ?_
  refine gj_kb (v := 40) d_Mo_init_142 (by decide) ?_
  refine gj_newI (kA := 0) (len := 40) d_Mo_init_144 gw_64 rfl (by decide) (by decide) (by omega) (by omega) (by omega) ?_
  obtain ⟨C257, eC257⟩ : ∃ Z0, Z0 = va_up C242 (84) (.inl (0, 40, .inl (fun _ => 0))) := ⟨_, rfl⟩
  refine gj_mem eC257 ?_
  have f258 : C257 (70) = .inr (5, [.int (0), .ref (71), .int (0), .int (0), .ref (72), .int (0), .ref (73), .int (0), .int (0), .ref (74), .ref (75), .ref (76), .ref (77), .ref (78), .ref (79), .ref (80), .ref (81), .ref (82), .ref (83), .null, .int (0), .null, .null, .null, .null, .null, .null]) := by rw [eC257, va_up_ne _ _ (by omega)]; exact f243
  have f259 : C257 (71) = .inl (0, 600, .inl (fun _ => 0)) := by rw [eC257, va_up_ne _ _ (by omega)]; exact f244
  have f260 : C257 (72) = .inl (0, 300, .inl (fun _ => 0)) := by rw [eC257, va_up_ne _ _ (by omega)]; exact f245
  have f261 : C257 (73) = .inl (0, 300, .inl (fun _ => 0)) := by rw [eC257, va_up_ne _ _ (by omega)]; exact f246
  have f262 : C257 (74) = .inl (2, 20, .inl (fun _ => 0)) := by rw [eC257, va_up_ne _ _ (by omega)]; exact f247
  have f263 : C257 (75) = .inl (0, 20, .inl (fun _ => 0)) := by rw [eC257, va_up_ne _ _ (by omega)]; exact f248
  have f264 : C257 (76) = .inl (0, 20, .inl (fun _ => 0)) := by rw [eC257, va_up_ne _ _ (by omega)]; exact f249
  have f265 : C257 (77) = .inl (0, 20, .inl (fun _ => 0)) := by rw [eC257, va_up_ne _ _ (by omega)]; exact f250
  have f266 : C257 (78) = .inl (0, 20, .inl (fun _ => 0)) := by rw [eC257, va_up_ne _ _ (by omega)]; exact f251
  have f267 : C257 (79) = .inl (0, 20, .inl (fun _ => 0)) := by rw [eC257, va_up_ne _ _ (by omega)]; exact f252
  have f268 : C257 (80) = .inl (0, 20, .inl (fun _ => 0)) := by rw [eC257, va_up_ne _ _ (by omega)]; exact f253
  have f269 : C257 (81) = .inl (0, 10, .inl (fun _ => 0)) := by rw [eC257, va_up_ne _ _ (by omega)]; exact f254
  have f270 : C257 (82) = .inl (0, 40, .inl (fun _ => 0)) := by rw [eC257, va_up_ne _ _ (by omega)]; exact f255
  have f271 : C257 (83) = .inl (0, 40, .inl (fun _ => 0)) := by rw [eC257, va_up_ne _ _ (by omega)]; exact f256
  have f272 : C257 (84) = .inl (0, 40, .inl (fun _ => 0)) := by rw [eC257]; exact va_up_self _ _ _
  refine gj_putF d_Mo_init_146 gp_Mo_69 rfl f258 (Nat.le_of_ble_eq_true rfl) (fun _ => rfl) (fun _ => rfl) ?_
  obtain ⟨C273, eC273⟩ : ∃ Z0, Z0 = va_up C257 (70) (.inr (5, [.int (0), .ref (71), .int (0), .int (0), .ref (72), .int (0), .ref (73), .int (0), .int (0), .ref (74), .ref (75), .ref (76), .ref (77), .ref (78), .ref (79), .ref (80), .ref (81), .ref (82), .ref (83), .ref (84), .int (0), .null, .null, .null, .null, .null, .null])) := ⟨_, rfl⟩
  refine gj_mem eC273 ?_
  have f274 : C273 (70) = .inr (5, [.int (0), .ref (71), .int (0), .int (0), .ref (72), .int (0), .ref (73), .int (0), .int (0), .ref (74), .ref (75), .ref (76), .ref (77), .ref (78), .ref (79), .ref (80), .ref (81), .ref (82), .ref (83), .ref (84), .int (0), .null, .null, .null, .null, .null, .null]) := by rw [eC273]; exact va_up_self _ _ _
  have f275 : C273 (71) = .inl (0, 600, .inl (fun _ => 0)) := by rw [eC273, va_up_ne _ _ (by omega)]; exact f259
  have f276 : C273 (72) = .inl (0, 300, .inl (fun _ => 0)) := by rw [eC273, va_up_ne _ _ (by omega)]; exact f260
  have f277 : C273 (73) = .inl (0, 300, .inl (fun _ => 0)) := by rw [eC273, va_up_ne _ _ (by omega)]; exact f261
  have f278 : C273 (74) = .inl (2, 20, .inl (fun _ => 0)) := by rw [eC273, va_up_ne _ _ (by omega)]; exact f262
  have f279 : C273 (75) = .inl (0, 20, .inl (fun _ => 0)) := by rw [eC273, va_up_ne _ _ (by omega)]; exact f263
  have f280 : C273 (76) = .inl (0, 20, .inl (fun _ => 0)) := by rw [eC273, va_up_ne _ _ (by omega)]; exact f264
  have f281 : C273 (77) = .inl (0, 20, .inl (fun _ => 0)) := by rw [eC273, va_up_ne _ _ (by omega)]; exact f265
  have f282 : C273 (78) = .inl (0, 20, .inl (fun _ => 0)) := by rw [eC273, va_up_ne _ _ (by omega)]; exact f266
  have f283 : C273 (79) = .inl (0, 20, .inl (fun _ => 0)) := by rw [eC273, va_up_ne _ _ (by omega)]; exact f267
  have f284 : C273 (80) = .inl (0, 20, .inl (fun _ => 0)) := by rw [eC273, va_up_ne _ _ (by omega)]; exact f268
  have f285 : C273 (81) = .inl (0, 10, .inl (fun _ => 0)) := by rw [eC273, va_up_ne _ _ (by omega)]; exact f269
  have f286 : C273 (82) = .inl (0, 40, .inl (fun _ => 0)) := by rw [eC273, va_up_ne _ _ (by omega)]; exact f270
  have f287 : C273 (83) = .inl (0, 40, .inl (fun _ => 0)) := by rw [eC273, va_up_ne _ _ (by omega)]; exact f271
  have f288 : C273 (84) = .inl (0, 40, .inl (fun _ => 0)) := by rw [eC273, va_up_ne _ _ (by omega)]; exact f272
  refine gj_aload_n d_Mo_init_149 rfl ?_
  refine gj_kc (v := 0) d_Mo_init_150 (by decide) ?_
  refine gj_put d_Mo_init_151 gp_Mo_72 f274 (Nat.le_of_ble_eq_true rfl) (fun _ => rfl) (fun _ => rfl) ?_
  obtain ⟨C289, eC289⟩ : ∃ Z0, Z0 = va_up C273 (70) (.inr (5, [.int (0), .ref (71), .int (0), .int (0), .ref (72), .int (0), .ref (73), .int (0), .int (0), .ref (74), .ref (75), .ref (76), .ref (77), .ref (78), .ref (79), .ref (80), .ref (81), .ref (82), .ref (83), .ref (84), .int (0), .null, .null, .null, .null, .null, .null])) := ⟨_, rfl⟩
  refine gj_mem eC289 ?_
  have f290 : C289 (70) = .inr (5, [.int (0), .ref (71), .int (0), .int (0), .ref (72), .int (0), .ref (73), .int (0), .int (0), .ref (74), .ref (75), .ref (76), .ref (77), .ref (78), .ref (79), .ref (80), .ref (81), .ref (82), .ref (83), .ref (84), .int (0), .null, .null, .null, .null, .null, .null]) := by rw [eC289]; exact va_up_self _ _ _
  have f291 : C289 (71) = .inl (0, 600, .inl (fun _ => 0)) := by rw [eC289, va_up_ne _ _ (by omega)]; exact f275
  have f292 : C289 (72) = .inl (0, 300, .inl (fun _ => 0)) := by rw [eC289, va_up_ne _ _ (by omega)]; exact f276
  have f293 : C289 (73) = .inl (0, 300, .inl (fun _ => 0)) := by rw [eC289, va_up_ne _ _ (by omega)]; exact f277
  have f294 : C289 (74) = .inl (2, 20, .inl (fun _ => 0)) := by rw [eC289, va_up_ne _ _ (by omega)]; exact f278
  have f295 : C289 (75) = .inl (0, 20, .inl (fun _ => 0)) := by rw [eC289, va_up_ne _ _ (by omega)]; exact f279
  have f296 : C289 (76) = .inl (0, 20, .inl (fun _ => 0)) := by rw [eC289, va_up_ne _ _ (by omega)]; exact f280
  have f297 : C289 (77) = .inl (0, 20, .inl (fun _ => 0)) := by rw [eC289, va_up_ne _ _ (by omega)]; exact f281
  have f298 : C289 (78) = .inl (0, 20, .inl (fun _ => 0)) := by rw [eC289, va_up_ne _ _ (by omega)]; exact f282
  have f299 : C289 (79) = .inl (0, 20, .inl (fun _ => 0)) := by rw [eC289, va_up_ne _ _ (by omega)]; exact f283
  have f300 : C289 (80) = .inl (0, 20, .inl (fun _ => 0)) := by rw [eC289, va_up_ne _ _ (by omega)]; exact f284
  have f301 : C289 (81) = .inl (0, 10, .inl (fun _ => 0)) := by rw [eC289, va_up_ne _ _ (by omega)]; exact f285
  have f302 : C289 (82) = .inl (0, 40, .inl (fun _ => 0)) := by rw [eC289, va_up_ne _ _ (by omega)]; exact f286
  have f303 : C289 (83) = .inl (0, 40, .inl (fun _ => 0)) := by rw [eC289, va_up_ne _ _ (by omega)]; exact f287
  have f304 : C289 (84) = .inl (0, 40, .inl (fun _ => 0)) := by rw [eC289, va_up_ne _ _ (by omega)]; exact f288
  refine gj_aload_n d_Mo_init_154 rfl ?_
  refine gj_kb (v := 8) d_Mo_init_155 (by decide) ?_
  refine gj_newI (kA := 0) (len := 8) d_Mo_init_157 gw_64 rfl (by decide) (by decide) (by omega) (by omega) (by omega) ?_
  obtain ⟨C305, eC305⟩ : ∃ Z0, Z0 = va_up C289 (85) (.inl (0, 8, .inl (fun _ => 0))) := ⟨_, rfl⟩
  refine gj_mem eC305 ?_
  have f306 : C305 (70) = .inr (5, [.int (0), .ref (71), .int (0), .int (0), .ref (72), .int (0), .ref (73), .int (0), .int (0), .ref (74), .ref (75), .ref (76), .ref (77), .ref (78), .ref (79), .ref (80), .ref (81), .ref (82), .ref (83), .ref (84), .int (0), .null, .null, .null, .null, .null, .null]) := by rw [eC305, va_up_ne _ _ (by omega)]; exact f290
  have f307 : C305 (71) = .inl (0, 600, .inl (fun _ => 0)) := by rw [eC305, va_up_ne _ _ (by omega)]; exact f291
  have f308 : C305 (72) = .inl (0, 300, .inl (fun _ => 0)) := by rw [eC305, va_up_ne _ _ (by omega)]; exact f292
  have f309 : C305 (73) = .inl (0, 300, .inl (fun _ => 0)) := by rw [eC305, va_up_ne _ _ (by omega)]; exact f293
  have f310 : C305 (74) = .inl (2, 20, .inl (fun _ => 0)) := by rw [eC305, va_up_ne _ _ (by omega)]; exact f294
  have f311 : C305 (75) = .inl (0, 20, .inl (fun _ => 0)) := by rw [eC305, va_up_ne _ _ (by omega)]; exact f295
  have f312 : C305 (76) = .inl (0, 20, .inl (fun _ => 0)) := by rw [eC305, va_up_ne _ _ (by omega)]; exact f296
  have f313 : C305 (77) = .inl (0, 20, .inl (fun _ => 0)) := by rw [eC305, va_up_ne _ _ (by omega)]; exact f297
  have f314 : C305 (78) = .inl (0, 20, .inl (fun _ => 0)) := by rw [eC305, va_up_ne _ _ (by omega)]; exact f298
  have f315 : C305 (79) = .inl (0, 20, .inl (fun _ => 0)) := by rw [eC305, va_up_ne _ _ (by omega)]; exact f299
  have f316 : C305 (80) = .inl (0, 20, .inl (fun _ => 0)) := by rw [eC305, va_up_ne _ _ (by omega)]; exact f300
  have f317 : C305 (81) = .inl (0, 10, .inl (fun _ => 0)) := by rw [eC305, va_up_ne _ _ (by omega)]; exact f301
  have f318 : C305 (82) = .inl (0, 40, .inl (fun _ => 0)) := by rw [eC305, va_up_ne _ _ (by omega)]; exact f302
  have f319 : C305 (83) = .inl (0, 40, .inl (fun _ => 0)) := by rw [eC305, va_up_ne _ _ (by omega)]; exact f303
  have f320 : C305 (84) = .inl (0, 40, .inl (fun _ => 0)) := by rw [eC305, va_up_ne _ _ (by omega)]; exact f304
  have f321 : C305 (85) = .inl (0, 8, .inl (fun _ => 0)) := by rw [eC305]; exact va_up_self _ _ _
  refine gj_putF d_Mo_init_159 gp_Mo_75 rfl f306 (Nat.le_of_ble_eq_true rfl) (fun _ => rfl) (fun _ => rfl) ?_
  obtain ⟨C322, eC322⟩ : ∃ Z0, Z0 = va_up C305 (70) (.inr (5, [.int (0), .ref (71), .int (0), .int (0), .ref (72), .int (0), .ref (73), .int (0), .int (0), .ref (74), .ref (75), .ref (76), .ref (77), .ref (78), .ref (79), .ref (80), .ref (81), .ref (82), .ref (83), .ref (84), .int (0), .ref (85), .null, .null, .null, .null, .null])) := ⟨_, rfl⟩
  refine gj_mem eC322 ?_
  have f323 : C322 (70) = .inr (5, [.int (0), .ref (71), .int (0), .int (0), .ref (72), .int (0), .ref (73), .int (0), .int (0), .ref (74), .ref (75), .ref (76), .ref (77), .ref (78), .ref (79), .ref (80), .ref (81), .ref (82), .ref (83), .ref (84), .int (0), .ref (85), .null, .null, .null, .null, .null]) := by rw [eC322]; exact va_up_self _ _ _
  have f324 : C322 (71) = .inl (0, 600, .inl (fun _ => 0)) := by rw [eC322, va_up_ne _ _ (by omega)]; exact f307
  have f325 : C322 (72) = .inl (0, 300, .inl (fun _ => 0)) := by rw [eC322, va_up_ne _ _ (by omega)]; exact f308
  have f326 : C322 (73) = .inl (0, 300, .inl (fun _ => 0)) := by rw [eC322, va_up_ne _ _ (by omega)]; exact f309
  have f327 : C322 (74) = .inl (2, 20, .inl (fun _ => 0)) := by rw [eC322, va_up_ne _ _ (by omega)]; exact f310
  have f328 : C322 (75) = .inl (0, 20, .inl (fun _ => 0)) := by rw [eC322, va_up_ne _ _ (by omega)]; exact f311
  have f329 : C322 (76) = .inl (0, 20, .inl (fun _ => 0)) := by rw [eC322, va_up_ne _ _ (by omega)]; exact f312
  have f330 : C322 (77) = .inl (0, 20, .inl (fun _ => 0)) := by rw [eC322, va_up_ne _ _ (by omega)]; exact f313
  have f331 : C322 (78) = .inl (0, 20, .inl (fun _ => 0)) := by rw [eC322, va_up_ne _ _ (by omega)]; exact f314
  have f332 : C322 (79) = .inl (0, 20, .inl (fun _ => 0)) := by rw [eC322, va_up_ne _ _ (by omega)]; exact f315
  have f333 : C322 (80) = .inl (0, 20, .inl (fun _ => 0)) := by rw [eC322, va_up_ne _ _ (by omega)]; exact f316
  have f334 : C322 (81) = .inl (0, 10, .inl (fun _ => 0)) := by rw [eC322, va_up_ne _ _ (by omega)]; exact f317
  have f335 : C322 (82) = .inl (0, 40, .inl (fun _ => 0)) := by rw [eC322, va_up_ne _ _ (by omega)]; exact f318
  have f336 : C322 (83) = .inl (0, 40, .inl (fun _ => 0)) := by rw [eC322, va_up_ne _ _ (by omega)]; exact f319
  have f337 : C322 (84) = .inl (0, 40, .inl (fun _ => 0)) := by rw [eC322, va_up_ne _ _ (by omega)]; exact f320
  have f338 : C322 (85) = .inl (0, 8, .inl (fun _ => 0)) := by rw [eC322, va_up_ne _ _ (by omega)]; exact f321
  refine gj_aload_n d_Mo_init_162 rfl ?_
  refine gj_kb (v := 8) d_Mo_init_163 (by decide) ?_
  refine gj_newI (kA := 0) (len := 8) d_Mo_init_165 gw_64 rfl (by decide) (by decide) (by omega) (by omega) (by omega) ?_
  obtain ⟨C339, eC339⟩ : ∃ Z0, Z0 = va_up C322 (86) (.inl (0, 8, .inl (fun _ => 0))) := ⟨_, rfl⟩
  refine gj_mem eC339 ?_
  have f340 : C339 (70) = .inr (5, [.int (0), .ref (71), .int (0), .int (0), .ref (72), .int (0), .ref (73), .int (0), .int (0), .ref (74), .ref (75), .ref (76), .ref (77), .ref (78), .ref (79), .ref (80), .ref (81), .ref (82), .ref (83), .ref (84), .int (0), .ref (85), .null, .null, .null, .null, .null]) := by rw [eC339, va_up_ne _ _ (by omega)]; exact f323
  have f341 : C339 (71) = .inl (0, 600, .inl (fun _ => 0)) := by rw [eC339, va_up_ne _ _ (by omega)]; exact f324
  have f342 : C339 (72) = .inl (0, 300, .inl (fun _ => 0)) := by rw [eC339, va_up_ne _ _ (by omega)]; exact f325
  have f343 : C339 (73) = .inl (0, 300, .inl (fun _ => 0)) := by rw [eC339, va_up_ne _ _ (by omega)]; exact f326
  have f344 : C339 (74) = .inl (2, 20, .inl (fun _ => 0)) := by rw [eC339, va_up_ne _ _ (by omega)]; exact f327
  have f345 : C339 (75) = .inl (0, 20, .inl (fun _ => 0)) := by rw [eC339, va_up_ne _ _ (by omega)]; exact f328
  have f346 : C339 (76) = .inl (0, 20, .inl (fun _ => 0)) := by rw [eC339, va_up_ne _ _ (by omega)]; exact f329
  have f347 : C339 (77) = .inl (0, 20, .inl (fun _ => 0)) := by rw [eC339, va_up_ne _ _ (by omega)]; exact f330
  have f348 : C339 (78) = .inl (0, 20, .inl (fun _ => 0)) := by rw [eC339, va_up_ne _ _ (by omega)]; exact f331
  have f349 : C339 (79) = .inl (0, 20, .inl (fun _ => 0)) := by rw [eC339, va_up_ne _ _ (by omega)]; exact f332
  have f350 : C339 (80) = .inl (0, 20, .inl (fun _ => 0)) := by rw [eC339, va_up_ne _ _ (by omega)]; exact f333
  have f351 : C339 (81) = .inl (0, 10, .inl (fun _ => 0)) := by rw [eC339, va_up_ne _ _ (by omega)]; exact f334
  have f352 : C339 (82) = .inl (0, 40, .inl (fun _ => 0)) := by rw [eC339, va_up_ne _ _ (by omega)]; exact f335
  have f353 : C339 (83) = .inl (0, 40, .inl (fun _ => 0)) := by rw [eC339, va_up_ne _ _ (by omega)]; exact f336
  have f354 : C339 (84) = .inl (0, 40, .inl (fun _ => 0)) := by rw [eC339, va_up_ne _ _ (by omega)]; exact f337
  have f355 : C339 (85) = .inl (0, 8, .inl (fun _ => 0)) := by rw [eC339, va_up_ne _ _ (by omega)]; exact f338
  have f356 : C339 (86) = .inl (0, 8, .inl (fun _ => 0)) := by rw [eC339]; exact va_up_self _ _ _
  refine gj_putF d_Mo_init_167 gp_Mo_78 rfl f340 (Nat.le_of_ble_eq_true rfl) (fun _ => rfl) (fun _ => rfl) ?_
  obtain ⟨C357, eC357⟩ : ∃ Z0, Z0 = va_up C339 (70) (.inr (5, [.int (0), .ref (71), .int (0), .int (0), .ref (72), .int (0), .ref (73), .int (0), .int (0), .ref (74), .ref (75), .ref (76), .ref (77), .ref (78), .ref (79), .ref (80), .ref (81), .ref (82), .ref (83), .ref (84), .int (0), .ref (85), .ref (86), .null, .null, .null, .null])) := ⟨_, rfl⟩
  refine gj_mem eC357 ?_
  have f358 : C357 (70) = .inr (5, [.int (0), .ref (71), .int (0), .int (0), .ref (72), .int (0), .ref (73), .int (0), .int (0), .ref (74), .ref (75), .ref (76), .ref (77), .ref (78), .ref (79), .ref (80), .ref (81), .ref (82), .ref (83), .ref (84), .int (0), .ref (85), .ref (86), .null, .null, .null, .null]) := by rw [eC357]; exact va_up_self _ _ _
  have f359 : C357 (71) = .inl (0, 600, .inl (fun _ => 0)) := by rw [eC357, va_up_ne _ _ (by omega)]; exact f341
  have f360 : C357 (72) = .inl (0, 300, .inl (fun _ => 0)) := by rw [eC357, va_up_ne _ _ (by omega)]; exact f342
  have f361 : C357 (73) = .inl (0, 300, .inl (fun _ => 0)) := by rw [eC357, va_up_ne _ _ (by omega)]; exact f343
  have f362 : C357 (74) = .inl (2, 20, .inl (fun _ => 0)) := by rw [eC357, va_up_ne _ _ (by omega)]; exact f344
  have f363 : C357 (75) = .inl (0, 20, .inl (fun _ => 0)) := by rw [eC357, va_up_ne _ _ (by omega)]; exact f345
  have f364 : C357 (76) = .inl (0, 20, .inl (fun _ => 0)) := by rw [eC357, va_up_ne _ _ (by omega)]; exact f346
  have f365 : C357 (77) = .inl (0, 20, .inl (fun _ => 0)) := by rw [eC357, va_up_ne _ _ (by omega)]; exact f347
  have f366 : C357 (78) = .inl (0, 20, .inl (fun _ => 0)) := by rw [eC357, va_up_ne _ _ (by omega)]; exact f348
  have f367 : C357 (79) = .inl (0, 20, .inl (fun _ => 0)) := by rw [eC357, va_up_ne _ _ (by omega)]; exact f349
  have f368 : C357 (80) = .inl (0, 20, .inl (fun _ => 0)) := by rw [eC357, va_up_ne _ _ (by omega)]; exact f350
  have f369 : C357 (81) = .inl (0, 10, .inl (fun _ => 0)) := by rw [eC357, va_up_ne _ _ (by omega)]; exact f351
  have f370 : C357 (82) = .inl (0, 40, .inl (fun _ => 0)) := by rw [eC357, va_up_ne _ _ (by omega)]; exact f352
  have f371 : C357 (83) = .inl (0, 40, .inl (fun _ => 0)) := by rw [eC357, va_up_ne _ _ (by omega)]; exact f353
  have f372 : C357 (84) = .inl (0, 40, .inl (fun _ => 0)) := by rw [eC357, va_up_ne _ _ (by omega)]; exact f354
  have f373 : C357 (85) = .inl (0, 8, .inl (fun _ => 0)) := by rw [eC357, va_up_ne _ _ (by omega)]; exact f355
  have f374 : C357 (86) = .inl (0, 8, .inl (fun _ => 0)) := by rw [eC357, va_up_ne _ _ (by omega)]; exact f356
  refine gj_aload_n d_Mo_init_170 rfl ?_
  refine gj_kb (v := 8) d_Mo_init_171 (by decide) ?_
  refine gj_newI (kA := 0) (len := 8) d_Mo_init_173 gw_64 rfl (by decide) (by decide) (by omega) (by omega) (by omega) ?_
  obtain ⟨C375, eC375⟩ : ∃ Z0, Z0 = va_up C357 (87) (.inl (0, 8, .inl (fun _ => 0))) := ⟨_, rfl⟩
  refine gj_mem eC375 ?_
  have f376 : C375 (70) = .inr (5, [.int (0), .ref (71), .int (0), .int (0), .ref (72), .int (0), .ref (73), .int (0), .int (0), .ref (74), .ref (75), .ref (76), .ref (77), .ref (78), .ref (79), .ref (80), .ref (81), .ref (82), .ref (83), .ref (84), .int (0), .ref (85), .ref (86), .null, .null, .null, .null]) := by rw [eC375, va_up_ne _ _ (by omega)]; exact f358
  have f377 : C375 (71) = .inl (0, 600, .inl (fun _ => 0)) := by rw [eC375, va_up_ne _ _ (by omega)]; exact f359
  have f378 : C375 (72) = .inl (0, 300, .inl (fun _ => 0)) := by rw [eC375, va_up_ne _ _ (by omega)]; exact f360
  have f379 : C375 (73) = .inl (0, 300, .inl (fun _ => 0)) := by rw [eC375, va_up_ne _ _ (by omega)]; exact f361
  have f380 : C375 (74) = .inl (2, 20, .inl (fun _ => 0)) := by rw [eC375, va_up_ne _ _ (by omega)]; exact f362
  have f381 : C375 (75) = .inl (0, 20, .inl (fun _ => 0)) := by rw [eC375, va_up_ne _ _ (by omega)]; exact f363
  have f382 : C375 (76) = .inl (0, 20, .inl (fun _ => 0)) := by rw [eC375, va_up_ne _ _ (by omega)]; exact f364
  have f383 : C375 (77) = .inl (0, 20, .inl (fun _ => 0)) := by rw [eC375, va_up_ne _ _ (by omega)]; exact f365
  have f384 : C375 (78) = .inl (0, 20, .inl (fun _ => 0)) := by rw [eC375, va_up_ne _ _ (by omega)]; exact f366
  have f385 : C375 (79) = .inl (0, 20, .inl (fun _ => 0)) := by rw [eC375, va_up_ne _ _ (by omega)]; exact f367
  have f386 : C375 (80) = .inl (0, 20, .inl (fun _ => 0)) := by rw [eC375, va_up_ne _ _ (by omega)]; exact f368
  have f387 : C375 (81) = .inl (0, 10, .inl (fun _ => 0)) := by rw [eC375, va_up_ne _ _ (by omega)]; exact f369
  have f388 : C375 (82) = .inl (0, 40, .inl (fun _ => 0)) := by rw [eC375, va_up_ne _ _ (by omega)]; exact f370
  have f389 : C375 (83) = .inl (0, 40, .inl (fun _ => 0)) := by rw [eC375, va_up_ne _ _ (by omega)]; exact f371
  have f390 : C375 (84) = .inl (0, 40, .inl (fun _ => 0)) := by rw [eC375, va_up_ne _ _ (by omega)]; exact f372
  have f391 : C375 (85) = .inl (0, 8, .inl (fun _ => 0)) := by rw [eC375, va_up_ne _ _ (by omega)]; exact f373
  have f392 : C375 (86) = .inl (0, 8, .inl (fun _ => 0)) := by rw [eC375, va_up_ne _ _ (by omega)]; exact f374
  have f393 : C375 (87) = .inl (0, 8, .inl (fun _ => 0)) := by rw [eC375]; exact va_up_self _ _ _
  refine gj_putF d_Mo_init_175 gp_Mo_81 rfl f376 (Nat.le_of_ble_eq_true rfl) (fun _ => rfl) (fun _ => rfl) ?_
  obtain ⟨C394, eC394⟩ : ∃ Z0, Z0 = va_up C375 (70) (.inr (5, [.int (0), .ref (71), .int (0), .int (0), .ref (72), .int (0), .ref (73), .int (0), .int (0), .ref (74), .ref (75), .ref (76), .ref (77), .ref (78), .ref (79), .ref (80), .ref (81), .ref (82), .ref (83), .ref (84), .int (0), .ref (85), .ref (86), .ref (87), .null, .null, .null])) := ⟨_, rfl⟩
  refine gj_mem eC394 ?_
  have f395 : C394 (70) = .inr (5, [.int (0), .ref (71), .int (0), .int (0), .ref (72), .int (0), .ref (73), .int (0), .int (0), .ref (74), .ref (75), .ref (76), .ref (77), .ref (78), .ref (79), .ref (80), .ref (81), .ref (82), .ref (83), .ref (84), .int (0), .ref (85), .ref (86), .ref (87), .null, .null, .null]) := by rw [eC394]; exact va_up_self _ _ _
  have f396 : C394 (71) = .inl (0, 600, .inl (fun _ => 0)) := by rw [eC394, va_up_ne _ _ (by omega)]; exact f377
  have f397 : C394 (72) = .inl (0, 300, .inl (fun _ => 0)) := by rw [eC394, va_up_ne _ _ (by omega)]; exact f378
  have f398 : C394 (73) = .inl (0, 300, .inl (fun _ => 0)) := by rw [eC394, va_up_ne _ _ (by omega)]; exact f379
  have f399 : C394 (74) = .inl (2, 20, .inl (fun _ => 0)) := by rw [eC394, va_up_ne _ _ (by omega)]; exact f380
  have f400 : C394 (75) = .inl (0, 20, .inl (fun _ => 0)) := by rw [eC394, va_up_ne _ _ (by omega)]; exact f381
  have f401 : C394 (76) = .inl (0, 20, .inl (fun _ => 0)) := by rw [eC394, va_up_ne _ _ (by omega)]; exact f382
  have f402 : C394 (77) = .inl (0, 20, .inl (fun _ => 0)) := by rw [eC394, va_up_ne _ _ (by omega)]; exact f383
  have f403 : C394 (78) = .inl (0, 20, .inl (fun _ => 0)) := by rw [eC394, va_up_ne _ _ (by omega)]; exact f384
  have f404 : C394 (79) = .inl (0, 20, .inl (fun _ => 0)) := by rw [eC394, va_up_ne _ _ (by omega)]; exact f385
  have f405 : C394 (80) = .inl (0, 20, .inl (fun _ => 0)) := by rw [eC394, va_up_ne _ _ (by omega)]; exact f386
  have f406 : C394 (81) = .inl (0, 10, .inl (fun _ => 0)) := by rw [eC394, va_up_ne _ _ (by omega)]; exact f387
  have f407 : C394 (82) = .inl (0, 40, .inl (fun _ => 0)) := by rw [eC394, va_up_ne _ _ (by omega)]; exact f388
  have f408 : C394 (83) = .inl (0, 40, .inl (fun _ => 0)) := by rw [eC394, va_up_ne _ _ (by omega)]; exact f389
  have f409 : C394 (84) = .inl (0, 40, .inl (fun _ => 0)) := by rw [eC394, va_up_ne _ _ (by omega)]; exact f390
  have f410 : C394 (85) = .inl (0, 8, .inl (fun _ => 0)) := by rw [eC394, va_up_ne _ _ (by omega)]; exact f391
  have f411 : C394 (86) = .inl (0, 8, .inl (fun _ => 0)) := by rw [eC394, va_up_ne _ _ (by omega)]; exact f392
  have f412 : C394 (87) = .inl (0, 8, .inl (fun _ => 0)) := by rw [eC394, va_up_ne _ _ (by omega)]; exact f393
  refine gj_aload_n d_Mo_init_178 rfl ?_
  refine gj_kb (v := 61) d_Mo_init_179 (by decide) ?_
  refine gj_newI (kA := 0) (len := 61) d_Mo_init_181 gw_64 rfl (by decide) (by decide) (by omega) (by omega) (by omega) ?_
  obtain ⟨C413, eC413⟩ : ∃ Z0, Z0 = va_up C394 (88) (.inl (0, 61, .inl (fun _ => 0))) := ⟨_, rfl⟩
  refine gj_mem eC413 ?_
  have f414 : C413 (70) = .inr (5, [.int (0), .ref (71), .int (0), .int (0), .ref (72), .int (0), .ref (73), .int (0), .int (0), .ref (74), .ref (75), .ref (76), .ref (77), .ref (78), .ref (79), .ref (80), .ref (81), .ref (82), .ref (83), .ref (84), .int (0), .ref (85), .ref (86), .ref (87), .null, .null, .null]) := by rw [eC413, va_up_ne _ _ (by omega)]; exact f395
  have f415 : C413 (71) = .inl (0, 600, .inl (fun _ => 0)) := by rw [eC413, va_up_ne _ _ (by omega)]; exact f396
  have f416 : C413 (72) = .inl (0, 300, .inl (fun _ => 0)) := by rw [eC413, va_up_ne _ _ (by omega)]; exact f397
  have f417 : C413 (73) = .inl (0, 300, .inl (fun _ => 0)) := by rw [eC413, va_up_ne _ _ (by omega)]; exact f398
  have f418 : C413 (74) = .inl (2, 20, .inl (fun _ => 0)) := by rw [eC413, va_up_ne _ _ (by omega)]; exact f399
  have f419 : C413 (75) = .inl (0, 20, .inl (fun _ => 0)) := by rw [eC413, va_up_ne _ _ (by omega)]; exact f400
  have f420 : C413 (76) = .inl (0, 20, .inl (fun _ => 0)) := by rw [eC413, va_up_ne _ _ (by omega)]; exact f401
  have f421 : C413 (77) = .inl (0, 20, .inl (fun _ => 0)) := by rw [eC413, va_up_ne _ _ (by omega)]; exact f402
  have f422 : C413 (78) = .inl (0, 20, .inl (fun _ => 0)) := by rw [eC413, va_up_ne _ _ (by omega)]; exact f403
  have f423 : C413 (79) = .inl (0, 20, .inl (fun _ => 0)) := by rw [eC413, va_up_ne _ _ (by omega)]; exact f404
  have f424 : C413 (80) = .inl (0, 20, .inl (fun _ => 0)) := by rw [eC413, va_up_ne _ _ (by omega)]; exact f405
  have f425 : C413 (81) = .inl (0, 10, .inl (fun _ => 0)) := by rw [eC413, va_up_ne _ _ (by omega)]; exact f406
  have f426 : C413 (82) = .inl (0, 40, .inl (fun _ => 0)) := by rw [eC413, va_up_ne _ _ (by omega)]; exact f407
  have f427 : C413 (83) = .inl (0, 40, .inl (fun _ => 0)) := by rw [eC413, va_up_ne _ _ (by omega)]; exact f408
  have f428 : C413 (84) = .inl (0, 40, .inl (fun _ => 0)) := by rw [eC413, va_up_ne _ _ (by omega)]; exact f409
  have f429 : C413 (85) = .inl (0, 8, .inl (fun _ => 0)) := by rw [eC413, va_up_ne _ _ (by omega)]; exact f410
  have f430 : C413 (86) = .inl (0, 8, .inl (fun _ => 0)) := by rw [eC413, va_up_ne _ _ (by omega)]; exact f411
  have f431 : C413 (87) = .inl (0, 8, .inl (fun _ => 0)) := by rw [eC413, va_up_ne _ _ (by omega)]; exact f412
  have f432 : C413 (88) = .inl (0, 61, .inl (fun _ => 0)) := by rw [eC413]; exact va_up_self _ _ _
  refine gj_putF d_Mo_init_183 gp_Mo_84 rfl f414 (Nat.le_of_ble_eq_true rfl) (fun _ => rfl) (fun _ => rfl) ?_
  obtain ⟨C433, eC433⟩ : ∃ Z0, Z0 = va_up C413 (70) (.inr (5, [.int (0), .ref (71), .int (0), .int (0), .ref (72), .int (0), .ref (73), .int (0), .int (0), .ref (74), .ref (75), .ref (76), .ref (77), .ref (78), .ref (79), .ref (80), .ref (81), .ref (82), .ref (83), .ref (84), .int (0), .ref (85), .ref (86), .ref (87), .ref (88), .null, .null])) := ⟨_, rfl⟩
  refine gj_mem eC433 ?_
  have f434 : C433 (70) = .inr (5, [.int (0), .ref (71), .int (0), .int (0), .ref (72), .int (0), .ref (73), .int (0), .int (0), .ref (74), .ref (75), .ref (76), .ref (77), .ref (78), .ref (79), .ref (80), .ref (81), .ref (82), .ref (83), .ref (84), .int (0), .ref (85), .ref (86), .ref (87), .ref (88), .null, .null]) := by rw [eC433]; exact va_up_self _ _ _
  have f435 : C433 (71) = .inl (0, 600, .inl (fun _ => 0)) := by rw [eC433, va_up_ne _ _ (by omega)]; exact f415
  have f436 : C433 (72) = .inl (0, 300, .inl (fun _ => 0)) := by rw [eC433, va_up_ne _ _ (by omega)]; exact f416
  have f437 : C433 (73) = .inl (0, 300, .inl (fun _ => 0)) := by rw [eC433, va_up_ne _ _ (by omega)]; exact f417
  have f438 : C433 (74) = .inl (2, 20, .inl (fun _ => 0)) := by rw [eC433, va_up_ne _ _ (by omega)]; exact f418
  have f439 : C433 (75) = .inl (0, 20, .inl (fun _ => 0)) := by rw [eC433, va_up_ne _ _ (by omega)]; exact f419
  have f440 : C433 (76) = .inl (0, 20, .inl (fun _ => 0)) := by rw [eC433, va_up_ne _ _ (by omega)]; exact f420
  have f441 : C433 (77) = .inl (0, 20, .inl (fun _ => 0)) := by rw [eC433, va_up_ne _ _ (by omega)]; exact f421
  have f442 : C433 (78) = .inl (0, 20, .inl (fun _ => 0)) := by rw [eC433, va_up_ne _ _ (by omega)]; exact f422
  have f443 : C433 (79) = .inl (0, 20, .inl (fun _ => 0)) := by rw [eC433, va_up_ne _ _ (by omega)]; exact f423
  have f444 : C433 (80) = .inl (0, 20, .inl (fun _ => 0)) := by rw [eC433, va_up_ne _ _ (by omega)]; exact f424
  have f445 : C433 (81) = .inl (0, 10, .inl (fun _ => 0)) := by rw [eC433, va_up_ne _ _ (by omega)]; exact f425
  have f446 : C433 (82) = .inl (0, 40, .inl (fun _ => 0)) := by rw [eC433, va_up_ne _ _ (by omega)]; exact f426
  have f447 : C433 (83) = .inl (0, 40, .inl (fun _ => 0)) := by rw [eC433, va_up_ne _ _ (by omega)]; exact f427
  have f448 : C433 (84) = .inl (0, 40, .inl (fun _ => 0)) := by rw [eC433, va_up_ne _ _ (by omega)]; exact f428
  have f449 : C433 (85) = .inl (0, 8, .inl (fun _ => 0)) := by rw [eC433, va_up_ne _ _ (by omega)]; exact f429
  have f450 : C433 (86) = .inl (0, 8, .inl (fun _ => 0)) := by rw [eC433, va_up_ne _ _ (by omega)]; exact f430
  have f451 : C433 (87) = .inl (0, 8, .inl (fun _ => 0)) := by rw [eC433, va_up_ne _ _ (by omega)]; exact f431
  have f452 : C433 (88) = .inl (0, 61, .inl (fun _ => 0)) := by rw [eC433, va_up_ne _ _ (by omega)]; exact f432
  refine gj_aload_n d_Mo_init_186 rfl ?_
  refine gj_kb (v := 61) d_Mo_init_187 (by decide) ?_
  refine gj_newI (kA := 0) (len := 61) d_Mo_init_189 gw_64 rfl (by decide) (by decide) (by omega) (by omega) (by omega) ?_
  obtain ⟨C453, eC453⟩ : ∃ Z0, Z0 = va_up C433 (89) (.inl (0, 61, .inl (fun _ => 0))) := ⟨_, rfl⟩
  refine gj_mem eC453 ?_
  have f454 : C453 (70) = .inr (5, [.int (0), .ref (71), .int (0), .int (0), .ref (72), .int (0), .ref (73), .int (0), .int (0), .ref (74), .ref (75), .ref (76), .ref (77), .ref (78), .ref (79), .ref (80), .ref (81), .ref (82), .ref (83), .ref (84), .int (0), .ref (85), .ref (86), .ref (87), .ref (88), .null, .null]) := by rw [eC453, va_up_ne _ _ (by omega)]; exact f434
  have f455 : C453 (71) = .inl (0, 600, .inl (fun _ => 0)) := by rw [eC453, va_up_ne _ _ (by omega)]; exact f435
  have f456 : C453 (72) = .inl (0, 300, .inl (fun _ => 0)) := by rw [eC453, va_up_ne _ _ (by omega)]; exact f436
  have f457 : C453 (73) = .inl (0, 300, .inl (fun _ => 0)) := by rw [eC453, va_up_ne _ _ (by omega)]; exact f437
  have f458 : C453 (74) = .inl (2, 20, .inl (fun _ => 0)) := by rw [eC453, va_up_ne _ _ (by omega)]; exact f438
  have f459 : C453 (75) = .inl (0, 20, .inl (fun _ => 0)) := by rw [eC453, va_up_ne _ _ (by omega)]; exact f439
  have f460 : C453 (76) = .inl (0, 20, .inl (fun _ => 0)) := by rw [eC453, va_up_ne _ _ (by omega)]; exact f440
  have f461 : C453 (77) = .inl (0, 20, .inl (fun _ => 0)) := by rw [eC453, va_up_ne _ _ (by omega)]; exact f441
  have f462 : C453 (78) = .inl (0, 20, .inl (fun _ => 0)) := by rw [eC453, va_up_ne _ _ (by omega)]; exact f442
  have f463 : C453 (79) = .inl (0, 20, .inl (fun _ => 0)) := by rw [eC453, va_up_ne _ _ (by omega)]; exact f443
  have f464 : C453 (80) = .inl (0, 20, .inl (fun _ => 0)) := by rw [eC453, va_up_ne _ _ (by omega)]; exact f444
  have f465 : C453 (81) = .inl (0, 10, .inl (fun _ => 0)) := by rw [eC453, va_up_ne _ _ (by omega)]; exact f445
  have f466 : C453 (82) = .inl (0, 40, .inl (fun _ => 0)) := by rw [eC453, va_up_ne _ _ (by omega)]; exact f446
  have f467 : C453 (83) = .inl (0, 40, .inl (fun _ => 0)) := by rw [eC453, va_up_ne _ _ (by omega)]; exact f447
  have f468 : C453 (84) = .inl (0, 40, .inl (fun _ => 0)) := by rw [eC453, va_up_ne _ _ (by omega)]; exact f448
  have f469 : C453 (85) = .inl (0, 8, .inl (fun _ => 0)) := by rw [eC453, va_up_ne _ _ (by omega)]; exact f449
  have f470 : C453 (86) = .inl (0, 8, .inl (fun _ => 0)) := by rw [eC453, va_up_ne _ _ (by omega)]; exact f450
  have f471 : C453 (87) = .inl (0, 8, .inl (fun _ => 0)) := by rw [eC453, va_up_ne _ _ (by omega)]; exact f451
  have f472 : C453 (88) = .inl (0, 61, .inl (fun _ => 0)) := by rw [eC453, va_up_ne _ _ (by omega)]; exact f452
  have f473 : C453 (89) = .inl (0, 61, .inl (fun _ => 0)) := by rw [eC453]; exact va_up_self _ _ _
  refine gj_putF d_Mo_init_191 gp_Mo_87 rfl f454 (Nat.le_of_ble_eq_true rfl) (fun _ => rfl) (fun _ => rfl) ?_
  obtain ⟨C474, eC474⟩ : ∃ Z0, Z0 = va_up C453 (70) (.inr (5, [.int (0), .ref (71), .int (0), .int (0), .ref (72), .int (0), .ref (73), .int (0), .int (0), .ref (74), .ref (75), .ref (76), .ref (77), .ref (78), .ref (79), .ref (80), .ref (81), .ref (82), .ref (83), .ref (84), .int (0), .ref (85), .ref (86), .ref (87), .ref (88), .ref (89), .null])) := ⟨_, rfl⟩
  refine gj_mem eC474 ?_
  have f475 : C474 (70) = .inr (5, [.int (0), .ref (71), .int (0), .int (0), .ref (72), .int (0), .ref (73), .int (0), .int (0), .ref (74), .ref (75), .ref (76), .ref (77), .ref (78), .ref (79), .ref (80), .ref (81), .ref (82), .ref (83), .ref (84), .int (0), .ref (85), .ref (86), .ref (87), .ref (88), .ref (89), .null]) := by rw [eC474]; exact va_up_self _ _ _
  have f476 : C474 (71) = .inl (0, 600, .inl (fun _ => 0)) := by rw [eC474, va_up_ne _ _ (by omega)]; exact f455
  have f477 : C474 (72) = .inl (0, 300, .inl (fun _ => 0)) := by rw [eC474, va_up_ne _ _ (by omega)]; exact f456
  have f478 : C474 (73) = .inl (0, 300, .inl (fun _ => 0)) := by rw [eC474, va_up_ne _ _ (by omega)]; exact f457
  have f479 : C474 (74) = .inl (2, 20, .inl (fun _ => 0)) := by rw [eC474, va_up_ne _ _ (by omega)]; exact f458
  have f480 : C474 (75) = .inl (0, 20, .inl (fun _ => 0)) := by rw [eC474, va_up_ne _ _ (by omega)]; exact f459
  have f481 : C474 (76) = .inl (0, 20, .inl (fun _ => 0)) := by rw [eC474, va_up_ne _ _ (by omega)]; exact f460
  have f482 : C474 (77) = .inl (0, 20, .inl (fun _ => 0)) := by rw [eC474, va_up_ne _ _ (by omega)]; exact f461
  have f483 : C474 (78) = .inl (0, 20, .inl (fun _ => 0)) := by rw [eC474, va_up_ne _ _ (by omega)]; exact f462
  have f484 : C474 (79) = .inl (0, 20, .inl (fun _ => 0)) := by rw [eC474, va_up_ne _ _ (by omega)]; exact f463
  have f485 : C474 (80) = .inl (0, 20, .inl (fun _ => 0)) := by rw [eC474, va_up_ne _ _ (by omega)]; exact f464
  have f486 : C474 (81) = .inl (0, 10, .inl (fun _ => 0)) := by rw [eC474, va_up_ne _ _ (by omega)]; exact f465
  have f487 : C474 (82) = .inl (0, 40, .inl (fun _ => 0)) := by rw [eC474, va_up_ne _ _ (by omega)]; exact f466
  have f488 : C474 (83) = .inl (0, 40, .inl (fun _ => 0)) := by rw [eC474, va_up_ne _ _ (by omega)]; exact f467
  have f489 : C474 (84) = .inl (0, 40, .inl (fun _ => 0)) := by rw [eC474, va_up_ne _ _ (by omega)]; exact f468
  have f490 : C474 (85) = .inl (0, 8, .inl (fun _ => 0)) := by rw [eC474, va_up_ne _ _ (by omega)]; exact f469
  have f491 : C474 (86) = .inl (0, 8, .inl (fun _ => 0)) := by rw [eC474, va_up_ne _ _ (by omega)]; exact f470
  have f492 : C474 (87) = .inl (0, 8, .inl (fun _ => 0)) := by rw [eC474, va_up_ne _ _ (by omega)]; exact f471
  have f493 : C474 (88) = .inl (0, 61, .inl (fun _ => 0)) := by rw [eC474, va_up_ne _ _ (by omega)]; exact f472
  have f494 : C474 (89) = .inl (0, 61, .inl (fun _ => 0)) := by rw [eC474, va_up_ne _ _ (by omega)]; exact f473
  refine gj_aload_n d_Mo_init_194 rfl ?_
  refine gj_kb (v := 61) d_Mo_init_195 (by decide) ?_
  refine gj_newI (kA := 0) (len := 61) d_Mo_init_197 gw_64 rfl (by decide) (by decide) (by omega) (by omega) (by omega) ?_
  obtain ⟨C495, eC495⟩ : ∃ Z0, Z0 = va_up C474 (90) (.inl (0, 61, .inl (fun _ => 0))) := ⟨_, rfl⟩
  refine gj_mem eC495 ?_
  have f496 : C495 (70) = .inr (5, [.int (0), .ref (71), .int (0), .int (0), .ref (72), .int (0), .ref (73), .int (0), .int (0), .ref (74), .ref (75), .ref (76), .ref (77), .ref (78), .ref (79), .ref (80), .ref (81), .ref (82), .ref (83), .ref (84), .int (0), .ref (85), .ref (86), .ref (87), .ref (88), .ref (89), .null]) := by rw [eC495, va_up_ne _ _ (by omega)]; exact f475
  have f497 : C495 (71) = .inl (0, 600, .inl (fun _ => 0)) := by rw [eC495, va_up_ne _ _ (by omega)]; exact f476
  have f498 : C495 (72) = .inl (0, 300, .inl (fun _ => 0)) := by rw [eC495, va_up_ne _ _ (by omega)]; exact f477
  have f499 : C495 (73) = .inl (0, 300, .inl (fun _ => 0)) := by rw [eC495, va_up_ne _ _ (by omega)]; exact f478
  have f500 : C495 (74) = .inl (2, 20, .inl (fun _ => 0)) := by rw [eC495, va_up_ne _ _ (by omega)]; exact f479
  have f501 : C495 (75) = .inl (0, 20, .inl (fun _ => 0)) := by rw [eC495, va_up_ne _ _ (by omega)]; exact f480
  have f502 : C495 (76) = .inl (0, 20, .inl (fun _ => 0)) := by rw [eC495, va_up_ne _ _ (by omega)]; exact f481
  have f503 : C495 (77) = .inl (0, 20, .inl (fun _ => 0)) := by rw [eC495, va_up_ne _ _ (by omega)]; exact f482
  have f504 : C495 (78) = .inl (0, 20, .inl (fun _ => 0)) := by rw [eC495, va_up_ne _ _ (by omega)]; exact f483
  have f505 : C495 (79) = .inl (0, 20, .inl (fun _ => 0)) := by rw [eC495, va_up_ne _ _ (by omega)]; exact f484
  have f506 : C495 (80) = .inl (0, 20, .inl (fun _ => 0)) := by rw [eC495, va_up_ne _ _ (by omega)]; exact f485
  have f507 : C495 (81) = .inl (0, 10, .inl (fun _ => 0)) := by rw [eC495, va_up_ne _ _ (by omega)]; exact f486
  have f508 : C495 (82) = .inl (0, 40, .inl (fun _ => 0)) := by rw [eC495, va_up_ne _ _ (by omega)]; exact f487
  have f509 : C495 (83) = .inl (0, 40, .inl (fun _ => 0)) := by rw [eC495, va_up_ne _ _ (by omega)]; exact f488
  have f510 : C495 (84) = .inl (0, 40, .inl (fun _ => 0)) := by rw [eC495, va_up_ne _ _ (by omega)]; exact f489
  have f511 : C495 (85) = .inl (0, 8, .inl (fun _ => 0)) := by rw [eC495, va_up_ne _ _ (by omega)]; exact f490
  have f512 : C495 (86) = .inl (0, 8, .inl (fun _ => 0)) := by rw [eC495, va_up_ne _ _ (by omega)]; exact f491
  have f513 : C495 (87) = .inl (0, 8, .inl (fun _ => 0)) := by rw [eC495, va_up_ne _ _ (by omega)]; exact f492
  have f514 : C495 (88) = .inl (0, 61, .inl (fun _ => 0)) := by rw [eC495, va_up_ne _ _ (by omega)]; exact f493
  have f515 : C495 (89) = .inl (0, 61, .inl (fun _ => 0)) := by rw [eC495, va_up_ne _ _ (by omega)]; exact f494
  have f516 : C495 (90) = .inl (0, 61, .inl (fun _ => 0)) := by rw [eC495]; exact va_up_self _ _ _
  refine gj_putF d_Mo_init_199 gp_Mo_90 rfl f496 (Nat.le_of_ble_eq_true rfl) (fun _ => rfl) (fun _ => rfl) ?_
  obtain ⟨C517, eC517⟩ : ∃ Z0, Z0 = va_up C495 (70) (.inr (5, [.int (0), .ref (71), .int (0), .int (0), .ref (72), .int (0), .ref (73), .int (0), .int (0), .ref (74), .ref (75), .ref (76), .ref (77), .ref (78), .ref (79), .ref (80), .ref (81), .ref (82), .ref (83), .ref (84), .int (0), .ref (85), .ref (86), .ref (87), .ref (88), .ref (89), .ref (90)])) := ⟨_, rfl⟩
  refine gj_mem eC517 ?_
  have f518 : C517 (70) = .inr (5, [.int (0), .ref (71), .int (0), .int (0), .ref (72), .int (0), .ref (73), .int (0), .int (0), .ref (74), .ref (75), .ref (76), .ref (77), .ref (78), .ref (79), .ref (80), .ref (81), .ref (82), .ref (83), .ref (84), .int (0), .ref (85), .ref (86), .ref (87), .ref (88), .ref (89), .ref (90)]) := by rw [eC517]; exact va_up_self _ _ _
  have f519 : C517 (71) = .inl (0, 600, .inl (fun _ => 0)) := by rw [eC517, va_up_ne _ _ (by omega)]; exact f497
  have f520 : C517 (72) = .inl (0, 300, .inl (fun _ => 0)) := by rw [eC517, va_up_ne _ _ (by omega)]; exact f498
  have f521 : C517 (73) = .inl (0, 300, .inl (fun _ => 0)) := by rw [eC517, va_up_ne _ _ (by omega)]; exact f499
  have f522 : C517 (74) = .inl (2, 20, .inl (fun _ => 0)) := by rw [eC517, va_up_ne _ _ (by omega)]; exact f500
  have f523 : C517 (75) = .inl (0, 20, .inl (fun _ => 0)) := by rw [eC517, va_up_ne _ _ (by omega)]; exact f501
  have f524 : C517 (76) = .inl (0, 20, .inl (fun _ => 0)) := by rw [eC517, va_up_ne _ _ (by omega)]; exact f502
  have f525 : C517 (77) = .inl (0, 20, .inl (fun _ => 0)) := by rw [eC517, va_up_ne _ _ (by omega)]; exact f503
  have f526 : C517 (78) = .inl (0, 20, .inl (fun _ => 0)) := by rw [eC517, va_up_ne _ _ (by omega)]; exact f504
  have f527 : C517 (79) = .inl (0, 20, .inl (fun _ => 0)) := by rw [eC517, va_up_ne _ _ (by omega)]; exact f505
  have f528 : C517 (80) = .inl (0, 20, .inl (fun _ => 0)) := by rw [eC517, va_up_ne _ _ (by omega)]; exact f506
  have f529 : C517 (81) = .inl (0, 10, .inl (fun _ => 0)) := by rw [eC517, va_up_ne _ _ (by omega)]; exact f507
  have f530 : C517 (82) = .inl (0, 40, .inl (fun _ => 0)) := by rw [eC517, va_up_ne _ _ (by omega)]; exact f508
  have f531 : C517 (83) = .inl (0, 40, .inl (fun _ => 0)) := by rw [eC517, va_up_ne _ _ (by omega)]; exact f509
  have f532 : C517 (84) = .inl (0, 40, .inl (fun _ => 0)) := by rw [eC517, va_up_ne _ _ (by omega)]; exact f510
  have f533 : C517 (85) = .inl (0, 8, .inl (fun _ => 0)) := by rw [eC517, va_up_ne _ _ (by omega)]; exact f511
  have f534 : C517 (86) = .inl (0, 8, .inl (fun _ => 0)) := by rw [eC517, va_up_ne _ _ (by omega)]; exact f512
  have f535 : C517 (87) = .inl (0, 8, .inl (fun _ => 0)) := by rw [eC517, va_up_ne _ _ (by omega)]; exact f513
  have f536 : C517 (88) = .inl (0, 61, .inl (fun _ => 0)) := by rw [eC517, va_up_ne _ _ (by omega)]; exact f514
  have f537 : C517 (89) = .inl (0, 61, .inl (fun _ => 0)) := by rw [eC517, va_up_ne _ _ (by omega)]; exact f515
  have f538 : C517 (90) = .inl (0, 61, .inl (fun _ => 0)) := by rw [eC517, va_up_ne _ _ (by omega)]; exact f516
  refine gj_vret rfl (by omega) (by omega) d_Mo_init_202 ?_
  exact ⟨rfl, rfl, f518, f519, f520, f521, f522, f523, f524, f525, f526, f527, f528, f529, f530, f531, f532, f533, f534, f535, f536, f537, f538, fun y hy => by show C517 y = C y; rw [eC517, va_up_ne _ _ (by omega)]; rw [eC495, va_up_ne _ _ (by omega)]; rw [eC474, va_up_ne _ _ (by omega)]; rw [eC453, va_up_ne _ _ (by omega)]; rw [eC433, va_up_ne _ _ (by omega)]; rw [eC413, va_up_ne _ _ (by omega)]; rw [eC394, va_up_ne _ _ (by omega)]; rw [eC375, va_up_ne _ _ (by omega)]; rw [eC357, va_up_ne _ _ (by omega)]; rw [eC339, va_up_ne _ _ (by omega)]; rw [eC322, va_up_ne _ _ (by omega)]; rw [eC305, va_up_ne _ _ (by omega)]; rw [eC289, va_up_ne _ _ (by omega)]; rw [eC273, va_up_ne _ _ (by omega)]; rw [eC257, va_up_ne _ _ (by omega)]; rw [eC242, va_up_ne _ _ (by omega)]; rw [eC227, va_up_ne _ _ (by omega)]; rw [eC213, va_up_ne _ _ (by omega)]; rw [eC199, va_up_ne _ _ (by omega)]; rw [eC186, va_up_ne _ _ (by omega)]; rw [eC173, va_up_ne _ _ (by omega)]; rw [eC161, va_up_ne _ _ (by omega)]; rw [eC149, va_up_ne _ _ (by omega)]; rw [eC138, va_up_ne _ _ (by omega)]; rw [eC127, va_up_ne _ _ (by omega)]; rw [eC117, va_up_ne _ _ (by omega)]; rw [eC107, va_up_ne _ _ (by omega)]; rw [eC98, va_up_ne _ _ (by omega)]; rw [eC89, va_up_ne _ _ (by omega)]; rw [eC81, va_up_ne _ _ (by omega)]; rw [eC73, va_up_ne _ _ (by omega)]; rw [eC66, va_up_ne _ _ (by omega)]; rw [eC59, va_up_ne _ _ (by omega)]; rw [eC53, va_up_ne _ _ (by omega)]; rw [eC47, va_up_ne _ _ (by omega)]; rw [eC42, va_up_ne _ _ (by omega)]; rw [eC37, va_up_ne _ _ (by omega)]; rw [eC32, va_up_ne _ _ (by omega)]; rw [eC27, va_up_ne _ _ (by omega)]; rw [eC23, va_up_ne _ _ (by omega)]; rw [eC19, va_up_ne _ _ (by omega)]; rw [eC15, va_up_ne _ _ (by omega)]; rw [eC12, va_up_ne _ _ (by omega)]; rw [eC9, va_up_ne _ _ (by omega)]; rw [eC6, va_up_ne _ _ (by omega)]; rw [eC3, va_up_ne _ _ (by omega)]; rw [eC1, va_up_ne _ _ (by omega)]⟩
