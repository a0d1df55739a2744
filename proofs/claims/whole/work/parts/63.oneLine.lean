/-! RateBreaksModel: oneLine -/
theorem pl_sn0 : ∀ {o : Option Nat}, pl_sn o = 0 → o = none
  | none, _ => rfl
  | some _, h => absurd (show (1 : Int32) = 0 from h) (by decide)
noncomputable def pm_run (f : Nat → Int32) (ln : Nat) : Nat → Nat → Nat → (Nat → Int32) → Bool × Nat × (Nat → Int32)
  | 0, _, p, g => (true, p, g)
  | m + 1, i, p, g => if pm_num f ln p < 0 then (false, pm_np f ln p, g) else pm_run f ln m (i + 1) (pm_np f ln p) (upd g i (pm_num f ln p))
/-- the numbers of a line of letter L, at 5 * nl + 1 and on, may be taken behind nl lines -/
def pm_ok (g : Nat → Int32) (nl : Nat) (L : Int32) : Prop := g (5 * nl + 1) ≤ 9 ∧ (L = 82 → g (5 * nl + 2) ≤ 9 ∧ 1 ≤ g (5 * nl + 3) ∧ g (5 * nl + 3) ≤ 100000 ∧ g (5 * nl + 4) ≤ 1000000 ∧ pl_hv g (g (5 * nl + 1)) (g (5 * nl + 2)) nl 0 0 < g (5 * nl + 3)) ∧
  (¬ L = 82 → pl_fd g L (g (5 * nl + 1)) nl 0 = none ∧ ¬ (L = 68 ∧ 100000 < g (5 * nl + 2)) ∧ ¬ (L = 77 ∧ 1000000 < g (5 * nl + 2)) ∧ (L = 70 → 1 ≤ g (5 * nl + 3) ∧ g (5 * nl + 3) ≤ 1000 ∧ g (5 * nl + 2) ≤ g (5 * nl + 3)))
theorem pm_np_le {f : Nat → Int32} {ln p : Nat} (h6 : ln ≤ 600) (hp : p ≤ 700) : pm_np f ln p ≤ 700 := by
  unfold pm_np
  split
  · rename_i h
    have hq : p < ln := pt_at_lt (by rw [h]; decide)
    rcases pt_nd_in f ln 700 (p + 1) with h2 | h2 <;> omega
  · exact hp
set_option maxHeartbeats 4000000 in
theorem c_Mo_oneLine_tail {d K N n sg li nl p ns dy : Nat} {tc L : Int32} {tx nr : Nat → Int32} {C : Nat → va_E} {Q : gj_R → Prop} (m70 : C (70) = .inr (5, [.int (tc), .ref (71), .int (nI sg), .int (nI li), .ref (72), .int (nI nl), .ref (73), .int (nI p), .int (nI ns), .ref (74), .ref (75), .ref (76), .ref (77), .ref (78), .ref (79), .ref (80), .ref (81), .ref (82), .ref (83), .ref (84), .int (nI dy), .ref (85), .ref (86), .ref (87), .ref (88), .ref (89), .ref (90)])) (m71 : C (71) = .inl (0, 600, .inl tx)) (m73 : C (73) = .inl (0, 300, .inl nr)) (hsg : sg ≤ 600) (hp : p ≤ 700) (hnl : nl < 60) (href : ¬ (pt_at tx sg p = 10 ∧ pm_ok nr nl L) → ∀ (C2 : Nat → va_E) (p2 : Nat) (g2 : Nat → Int32), C2 70 = .inr (5, [.int (tc), .ref (71), .int (nI sg), .int (nI li), .ref (72), .int (nI nl), .ref (73), .int (nI p2), .int (nI ns), .ref (74), .ref (75), .ref (76), .ref (77), .ref (78), .ref (79), .ref (80), .ref (81), .ref (82), .ref (83), .ref (84), .int (nI dy), .ref (85), .ref (86), .ref (87), .ref (88), .ref (89), .ref (90)]) → C2 73 = .inl (0, 300, .inl g2) → (∀ y, y ≠ 70 → y ≠ 73 → C2 y = C y) → Q (gj_iv 0, n, C2)) (hacc : pt_at tx sg p = 10 ∧ pm_ok nr nl L → ∀ (C2 : Nat → va_E), C2 70 = .inr (5, [.int (tc), .ref (71), .int (nI sg), .int (nI li), .ref (72), .int (nI (nl + 1)), .ref (73), .int (nI (p + 1)), .int (nI ns), .ref (74), .ref (75), .ref (76), .ref (77), .ref (78), .ref (79), .ref (80), .ref (81), .ref (82), .ref (83), .ref (84), .int (nI dy), .ref (85), .ref (86), .ref (87), .ref (88), .ref (89), .ref (90)]) → C2 73 = .inl (0, 300, .inl (upd nr (5 * nl) L)) → (∀ y, y ≠ 70 → y ≠ 73 → C2 y = C y) → Q (gj_iv 1, n, C2)) : gj_G md_Mo_oneLine (d + 2) K N 0 0 116 [(0, .ref (70)), (1, .int (L)), (3, .int (nI (5 * nl)))] [] n C Q := by
  refine gj_aload_n d_Mo_oneLine_116 rfl ?_
  refine gj_callV (as := []) (rest := []) (K1 := 0) (N1 := 0) d_Mo_oneLine_117 mo_Mo_here gw_698 gw_700 gw_10 m70 rfl pl_Mo_here (Nat.le_of_ble_eq_true rfl) (Nat.le_of_ble_eq_true rfl) (Nat.zero_le _) (Nat.zero_le _) (c_Mo_here m70 m71 hsg (by omega)) (fun E n' C' _ h => by cases h) (fun v n' C' _ h => ?_)
  cases h
  refine gj_kb (v := 10) d_Mo_oneLine_120 (by decide) ?_
  refine gj_icmp_eq (tgt := 127) d_Mo_oneLine_122 (by decide) (fun h122 => ?_) (fun h122 => ?_)
  · refine gj_aload_n d_Mo_oneLine_127 rfl ?_
    refine gj_dup d_Mo_oneLine_128 rfl ?_
    refine gj_get d_Mo_oneLine_129 gf_Mo_32 m70 rfl ?_
    refine gj_kc (v := 1) d_Mo_oneLine_132 (by decide) ?_
    refine gj_iadd d_Mo_oneLine_133 ?_
    refine gj_top (y := nI (p + 1)) (nI_add (p) (1)) ?_
    refine gj_put d_Mo_oneLine_134 gp_Mo_32 m70 (Nat.le_of_ble_eq_true rfl) (fun _ => rfl) (fun _ => rfl) ?_
    obtain ⟨C1, eC1⟩ : ∃ Z0, Z0 = va_up C (70) (.inr (5, [.int (tc), .ref (71), .int (nI sg), .int (nI li), .ref (72), .int (nI nl), .ref (73), .int (nI (p + 1)), .int (nI ns), .ref (74), .ref (75), .ref (76), .ref (77), .ref (78), .ref (79), .ref (80), .ref (81), .ref (82), .ref (83), .ref (84), .int (nI dy), .ref (85), .ref (86), .ref (87), .ref (88), .ref (89), .ref (90)])) := ⟨_, rfl⟩
    refine gj_mem eC1 ?_
    have f2 : C1 (70) = .inr (5, [.int (tc), .ref (71), .int (nI sg), .int (nI li), .ref (72), .int (nI nl), .ref (73), .int (nI (p + 1)), .int (nI ns), .ref (74), .ref (75), .ref (76), .ref (77), .ref (78), .ref (79), .ref (80), .ref (81), .ref (82), .ref (83), .ref (84), .int (nI dy), .ref (85), .ref (86), .ref (87), .ref (88), .ref (89), .ref (90)]) := by rw [eC1]; exact va_up_self _ _ _
    have f3 : C1 (71) = .inl (0, 600, .inl tx) := by rw [eC1, va_up_ne _ _ (by omega)]; exact m71
    have f4 : C1 (73) = .inl (0, 300, .inl nr) := by rw [eC1, va_up_ne _ _ (by omega)]; exact m73
    refine gj_aload_n d_Mo_oneLine_137 rfl ?_
    refine gj_get d_Mo_oneLine_138 gf_Mo_29 f2 rfl ?_
    refine gj_iload_n d_Mo_oneLine_141 rfl ?_
    refine gj_kc (v := 1) d_Mo_oneLine_142 (by decide) ?_
    refine gj_iadd d_Mo_oneLine_143 ?_
    refine gj_top (y := nI ((5 * nl) + 1)) (nI_add (5 * nl) (1)) ?_
    refine gj_iald d_Mo_oneLine_144 f4 rfl (vp_in_nI (by omega) (by decide)) ?_
    refine gj_top (y := nr ((5 * nl) + 1)) (congrArg nr (nI_clamp (by omega))) ?_
    refine gj_istore d_Mo_oneLine_145 (by decide) ?_
    refine gj_aload_n d_Mo_oneLine_147 rfl ?_
    refine gj_get d_Mo_oneLine_148 gf_Mo_29 f2 rfl ?_
    refine gj_iload_n d_Mo_oneLine_151 rfl ?_
    refine gj_kc (v := 2) d_Mo_oneLine_152 (by decide) ?_
    refine gj_iadd d_Mo_oneLine_153 ?_
    refine gj_top (y := nI ((5 * nl) + 2)) (nI_add (5 * nl) (2)) ?_
    refine gj_iald d_Mo_oneLine_154 f4 rfl (vp_in_nI (by omega) (by decide)) ?_
    refine gj_top (y := nr ((5 * nl) + 2)) (congrArg nr (nI_clamp (by omega))) ?_
    refine gj_istore d_Mo_oneLine_155 (by decide) ?_
    refine gj_aload_n d_Mo_oneLine_157 rfl ?_
    refine gj_get d_Mo_oneLine_158 gf_Mo_29 f2 rfl ?_
    refine gj_iload_n d_Mo_oneLine_161 rfl ?_
    refine gj_kc (v := 3) d_Mo_oneLine_162 (by decide) ?_
    refine gj_iadd d_Mo_oneLine_163 ?_
    refine gj_top (y := nI ((5 * nl) + 3)) (nI_add (5 * nl) (3)) ?_
    refine gj_iald d_Mo_oneLine_164 f4 rfl (vp_in_nI (by omega) (by decide)) ?_
    refine gj_top (y := nr ((5 * nl) + 3)) (congrArg nr (nI_clamp (by omega))) ?_
    refine gj_istore d_Mo_oneLine_165 (by decide) ?_
    refine gj_iload d_Mo_oneLine_167 rfl ?_
    refine gj_kb (v := 9) d_Mo_oneLine_169 (by decide) ?_
    refine gj_icmp_le (tgt := 176) d_Mo_oneLine_171 (by decide) (fun h171 => ?_) (fun h171 => ?_)
    · refine gj_iload_n d_Mo_oneLine_176 rfl ?_
      refine gj_kb (v := 82) d_Mo_oneLine_177 (by decide) ?_
      refine gj_icmp_ne (tgt := 230) d_Mo_oneLine_179 (by decide) (fun h179 => ?_) (fun h179 => ?_)
      · refine gj_aload_n d_Mo_oneLine_230 rfl ?_
        refine gj_iload_n d_Mo_oneLine_231 rfl ?_
        refine gj_iload d_Mo_oneLine_232 rfl ?_
        refine gj_callV (as := [.int (L), .int (nr ((5 * nl) + 1))]) (rest := []) (K1 := 0) (N1 := 0) d_Mo_oneLine_234 mo_Mo_seen gw_712 gw_714 gw_13 f2 rfl pl_Mo_seen (Nat.le_of_ble_eq_true rfl) (Nat.le_of_ble_eq_true rfl) (Nat.zero_le _) (Nat.zero_le _) (c_Mo_seen f2 f4 (by omega)) (fun E n' C' _ h => by cases h) (fun v n' C' _ h => ?_)
        cases h
        refine gj_if_eq (tgt := 242) d_Mo_oneLine_237 (by decide) (fun h237 => ?_) (fun h237 => ?_)
        · refine gj_iload_n d_Mo_oneLine_242 rfl ?_
          refine gj_kb (v := 68) d_Mo_oneLine_243 (by decide) ?_
          refine gj_icmp_ne (tgt := 255) d_Mo_oneLine_245 (by decide) (fun h245 => ?_) (fun h245 => ?_)
          · refine gj_iload_n d_Mo_oneLine_255 rfl ?_
            refine gj_kb (v := 77) d_Mo_oneLine_256 (by decide) ?_
            refine gj_icmp_ne (tgt := 270) d_Mo_oneLine_258 (by decide) (fun h258 => ?_) (fun h258 => ?_)
            · refine gj_iload_n d_Mo_oneLine_270 rfl ?_
              refine gj_kb (v := 70) d_Mo_oneLine_271 (by decide) ?_
              refine gj_icmp_ne (tgt := 299) d_Mo_oneLine_273 (by decide) (fun h273 => ?_) (fun h273 => ?_)
              · refine gj_aload_n d_Mo_oneLine_299 rfl ?_
                refine gj_get d_Mo_oneLine_300 gf_Mo_29 f2 rfl ?_
                refine gj_iload_n d_Mo_oneLine_303 rfl ?_
                refine gj_iload_n d_Mo_oneLine_304 rfl ?_
                refine gj_iast d_Mo_oneLine_305 f4 rfl (vp_in_nI (by omega) (by decide)) ?_
                obtain ⟨C5, eC5⟩ : ∃ Z0, Z0 = va_up C1 (73) (.inl (0, 300, .inl (upd nr (5 * nl) (L)))) := ⟨_, rfl⟩
                refine gj_mem (eC5.trans (by rw [nI_clamp (by omega)])) ?_
                have f6 : C5 (70) = .inr (5, [.int (tc), .ref (71), .int (nI sg), .int (nI li), .ref (72), .int (nI nl), .ref (73), .int (nI (p + 1)), .int (nI ns), .ref (74), .ref (75), .ref (76), .ref (77), .ref (78), .ref (79), .ref (80), .ref (81), .ref (82), .ref (83), .ref (84), .int (nI dy), .ref (85), .ref (86), .ref (87), .ref (88), .ref (89), .ref (90)]) := by rw [eC5, va_up_ne _ _ (by omega)]; exact f2
                have f7 : C5 (71) = .inl (0, 600, .inl tx) := by rw [eC5, va_up_ne _ _ (by omega)]; exact f3
                have f8 : C5 (73) = .inl (0, 300, .inl (upd nr (5 * nl) (L))) := by rw [eC5]; exact va_up_self _ _ _
                refine gj_aload_n d_Mo_oneLine_306 rfl ?_
                refine gj_dup d_Mo_oneLine_307 rfl ?_
                refine gj_get d_Mo_oneLine_308 gf_Mo_26 f6 rfl ?_
                refine gj_kc (v := 1) d_Mo_oneLine_311 (by decide) ?_
                refine gj_iadd d_Mo_oneLine_312 ?_
                refine gj_top (y := nI (nl + 1)) (nI_add (nl) (1)) ?_
                refine gj_put d_Mo_oneLine_313 gp_Mo_26 f6 (Nat.le_of_ble_eq_true rfl) (fun _ => rfl) (fun _ => rfl) ?_
                obtain ⟨C9, eC9⟩ : ∃ Z0, Z0 = va_up C5 (70) (.inr (5, [.int (tc), .ref (71), .int (nI sg), .int (nI li), .ref (72), .int (nI (nl + 1)), .ref (73), .int (nI (p + 1)), .int (nI ns), .ref (74), .ref (75), .ref (76), .ref (77), .ref (78), .ref (79), .ref (80), .ref (81), .ref (82), .ref (83), .ref (84), .int (nI dy), .ref (85), .ref (86), .ref (87), .ref (88), .ref (89), .ref (90)])) := ⟨_, rfl⟩
                refine gj_mem eC9 ?_
                have f10 : C9 (70) = .inr (5, [.int (tc), .ref (71), .int (nI sg), .int (nI li), .ref (72), .int (nI (nl + 1)), .ref (73), .int (nI (p + 1)), .int (nI ns), .ref (74), .ref (75), .ref (76), .ref (77), .ref (78), .ref (79), .ref (80), .ref (81), .ref (82), .ref (83), .ref (84), .int (nI dy), .ref (85), .ref (86), .ref (87), .ref (88), .ref (89), .ref (90)]) := by rw [eC9]; exact va_up_self _ _ _
                have f11 : C9 (71) = .inl (0, 600, .inl tx) := by rw [eC9, va_up_ne _ _ (by omega)]; exact f7
                have f12 : C9 (73) = .inl (0, 300, .inl (upd nr (5 * nl) (L))) := by rw [eC9, va_up_ne _ _ (by omega)]; exact f8
                refine gj_kc (v := 1) d_Mo_oneLine_316 (by decide) ?_
                refine gj_zret rfl (by first | exact Or.inl rfl | exact Or.inr rfl) (Nat.zero_le _) (Nat.zero_le _) d_Mo_oneLine_317 ?_
                have hc : pt_at tx sg p = 10 ∧ pm_ok nr nl L := ⟨h122, h171, by first | exact fun _ => ⟨Int32.not_lt.mp h186, Int32.not_lt.mp h192, Int32.not_lt.mp h199, Int32.not_lt.mp h212, h225⟩ | exact fun z => absurd z h179, by first | exact fun z => absurd h179 z | exact fun _ => ⟨pl_sn0 h237, by first | exact fun z => h245 z.1 | exact fun z => h252 z.2, by first | exact fun z => h258 z.1 | exact fun z => absurd h265 (Int32.not_le.mpr z.2), by first | exact fun z => absurd z h273 | exact fun _ => ⟨Int32.not_lt.mp h279, Int32.not_lt.mp h287, h294⟩⟩⟩
                exact hacc hc C9 f10 f12 (fun y b1 b2 => by show C9 y = C y; rw [eC9, va_up_ne _ _ (by assumption), eC5, va_up_ne _ _ (by assumption), eC1, va_up_ne _ _ (by assumption)])
              · refine gj_iload d_Mo_oneLine_276 rfl ?_
                refine gj_kc (v := 1) d_Mo_oneLine_278 (by decide) ?_
                refine gj_icmp_lt (tgt := 297) d_Mo_oneLine_279 (by decide) (fun h279 => ?_) (fun h279 => ?_)
                · refine gj_kc (v := 0) d_Mo_oneLine_297 (by decide) ?_
                  refine gj_zret rfl (by first | exact Or.inl rfl | exact Or.inr rfl) (Nat.zero_le _) (Nat.zero_le _) d_Mo_oneLine_298 ?_
                  exact href (fun q => by first | exact h122 q.1 | exact h171 q.2.1 | exact absurd h186 (Int32.not_lt.mpr (q.2.2.1 h179).1) | exact absurd h192 (Int32.not_lt.mpr (q.2.2.1 h179).2.1) | exact absurd h199 (Int32.not_lt.mpr (q.2.2.1 h179).2.2.1) | exact absurd h212 (Int32.not_lt.mpr (q.2.2.1 h179).2.2.2.1) | exact h225 (q.2.2.1 h179).2.2.2.2 | exact h237 (by rw [(q.2.2.2 h179).1]; rfl) | exact (q.2.2.2 h179).2.1 ⟨h245, h252⟩ | exact (q.2.2.2 h179).2.2.1 ⟨h258, Int32.not_le.mp h265⟩ | exact absurd h279 (Int32.not_lt.mpr ((q.2.2.2 h179).2.2.2 h273).1) | exact absurd h287 (Int32.not_lt.mpr ((q.2.2.2 h179).2.2.2 h273).2.1) | exact h294 ((q.2.2.2 h179).2.2.2 h273).2.2) C1 _ _ f2 f4 (fun y b1 b2 => by show C1 y = C y; rw [eC1, va_up_ne _ _ (by assumption)])
                · refine gj_iload d_Mo_oneLine_282 rfl ?_
                  refine gj_ks (v := 1000) d_Mo_oneLine_284 (by decide) ?_
                  refine gj_icmp_gt (tgt := 297) d_Mo_oneLine_287 (by decide) (fun h287 => ?_) (fun h287 => ?_)
                  · refine gj_kc (v := 0) d_Mo_oneLine_297 (by decide) ?_
                    refine gj_zret rfl (by first | exact Or.inl rfl | exact Or.inr rfl) (Nat.zero_le _) (Nat.zero_le _) d_Mo_oneLine_298 ?_
                    exact href (fun q => by first | exact h122 q.1 | exact h171 q.2.1 | exact absurd h186 (Int32.not_lt.mpr (q.2.2.1 h179).1) | exact absurd h192 (Int32.not_lt.mpr (q.2.2.1 h179).2.1) | exact absurd h199 (Int32.not_lt.mpr (q.2.2.1 h179).2.2.1) | exact absurd h212 (Int32.not_lt.mpr (q.2.2.1 h179).2.2.2.1) | exact h225 (q.2.2.1 h179).2.2.2.2 | exact h237 (by rw [(q.2.2.2 h179).1]; rfl) | exact (q.2.2.2 h179).2.1 ⟨h245, h252⟩ | exact (q.2.2.2 h179).2.2.1 ⟨h258, Int32.not_le.mp h265⟩ | exact absurd h279 (Int32.not_lt.mpr ((q.2.2.2 h179).2.2.2 h273).1) | exact absurd h287 (Int32.not_lt.mpr ((q.2.2.2 h179).2.2.2 h273).2.1) | exact h294 ((q.2.2.2 h179).2.2.2 h273).2.2) C1 _ _ f2 f4 (fun y b1 b2 => by show C1 y = C y; rw [eC1, va_up_ne _ _ (by assumption)])
                  · refine gj_iload d_Mo_oneLine_290 rfl ?_
                    refine gj_iload d_Mo_oneLine_292 rfl ?_
                    refine gj_icmp_le (tgt := 299) d_Mo_oneLine_294 (by decide) (fun h294 => ?_) (fun h294 => ?_)
                    · refine gj_aload_n d_Mo_oneLine_299 rfl ?_
                      refine gj_get d_Mo_oneLine_300 gf_Mo_29 f2 rfl ?_
                      refine gj_iload_n d_Mo_oneLine_303 rfl ?_
                      refine gj_iload_n d_Mo_oneLine_304 rfl ?_
                      refine gj_iast d_Mo_oneLine_305 f4 rfl (vp_in_nI (by omega) (by decide)) ?_
                      obtain ⟨C13, eC13⟩ : ∃ Z0, Z0 = va_up C1 (73) (.inl (0, 300, .inl (upd nr (5 * nl) (L)))) := ⟨_, rfl⟩
                      refine gj_mem (eC13.trans (by rw [nI_clamp (by omega)])) ?_
                      have f14 : C13 (70) = .inr (5, [.int (tc), .ref (71), .int (nI sg), .int (nI li), .ref (72), .int (nI nl), .ref (73), .int (nI (p + 1)), .int (nI ns), .ref (74), .ref (75), .ref (76), .ref (77), .ref (78), .ref (79), .ref (80), .ref (81), .ref (82), .ref (83), .ref (84), .int (nI dy), .ref (85), .ref (86), .ref (87), .ref (88), .ref (89), .ref (90)]) := by rw [eC13, va_up_ne _ _ (by omega)]; exact f2
                      have f15 : C13 (71) = .inl (0, 600, .inl tx) := by rw [eC13, va_up_ne _ _ (by omega)]; exact f3
                      have f16 : C13 (73) = .inl (0, 300, .inl (upd nr (5 * nl) (L))) := by rw [eC13]; exact va_up_self _ _ _
                      refine gj_aload_n d_Mo_oneLine_306 rfl ?_
                      refine gj_dup d_Mo_oneLine_307 rfl ?_
                      refine gj_get d_Mo_oneLine_308 gf_Mo_26 f14 rfl ?_
                      refine gj_kc (v := 1) d_Mo_oneLine_311 (by decide) ?_
                      refine gj_iadd d_Mo_oneLine_312 ?_
                      refine gj_top (y := nI (nl + 1)) (nI_add (nl) (1)) ?_
                      refine gj_put d_Mo_oneLine_313 gp_Mo_26 f14 (Nat.le_of_ble_eq_true rfl) (fun _ => rfl) (fun _ => rfl) ?_
                      obtain ⟨C17, eC17⟩ : ∃ Z0, Z0 = va_up C13 (70) (.inr (5, [.int (tc), .ref (71), .int (nI sg), .int (nI li), .ref (72), .int (nI (nl + 1)), .ref (73), .int (nI (p + 1)), .int (nI ns), .ref (74), .ref (75), .ref (76), .ref (77), .ref (78), .ref (79), .ref (80), .ref (81), .ref (82), .ref (83), .ref (84), .int (nI dy), .ref (85), .ref (86), .ref (87), .ref (88), .ref (89), .ref (90)])) := ⟨_, rfl⟩
                      refine gj_mem eC17 ?_
                      have f18 : C17 (70) = .inr (5, [.int (tc), .ref (71), .int (nI sg), .int (nI li), .ref (72), .int (nI (nl + 1)), .ref (73), .int (nI (p + 1)), .int (nI ns), .ref (74), .ref (75), .ref (76), .ref (77), .ref (78), .ref (79), .ref (80), .ref (81), .ref (82), .ref (83), .ref (84), .int (nI dy), .ref (85), .ref (86), .ref (87), .ref (88), .ref (89), .ref (90)]) := by rw [eC17]; exact va_up_self _ _ _
                      have f19 : C17 (71) = .inl (0, 600, .inl tx) := by rw [eC17, va_up_ne _ _ (by omega)]; exact f15
                      have f20 : C17 (73) = .inl (0, 300, .inl (upd nr (5 * nl) (L))) := by rw [eC17, va_up_ne _ _ (by omega)]; exact f16
                      refine gj_kc (v := 1) d_Mo_oneLine_316 (by decide) ?_
                      refine gj_zret rfl (by first | exact Or.inl rfl | exact Or.inr rfl) (Nat.zero_le _) (Nat.zero_le _) d_Mo_oneLine_317 ?_
                      have hc : pt_at tx sg p = 10 ∧ pm_ok nr nl L := ⟨h122, h171, by first | exact fun _ => ⟨Int32.not_lt.mp h186, Int32.not_lt.mp h192, Int32.not_lt.mp h199, Int32.not_lt.mp h212, h225⟩ | exact fun z => absurd z h179, by first | exact fun z => absurd h179 z | exact fun _ => ⟨pl_sn0 h237, by first | exact fun z => h245 z.1 | exact fun z => h252 z.2, by first | exact fun z => h258 z.1 | exact fun z => absurd h265 (Int32.not_le.mpr z.2), by first | exact fun z => absurd z h273 | exact fun _ => ⟨Int32.not_lt.mp h279, Int32.not_lt.mp h287, h294⟩⟩⟩
                      exact hacc hc C17 f18 f20 (fun y b1 b2 => by show C17 y = C y; rw [eC17, va_up_ne _ _ (by assumption), eC13, va_up_ne _ _ (by assumption), eC1, va_up_ne _ _ (by assumption)])
                    · refine gj_kc (v := 0) d_Mo_oneLine_297 (by decide) ?_
                      refine gj_zret rfl (by first | exact Or.inl rfl | exact Or.inr rfl) (Nat.zero_le _) (Nat.zero_le _) d_Mo_oneLine_298 ?_
                      exact href (fun q => by first | exact h122 q.1 | exact h171 q.2.1 | exact absurd h186 (Int32.not_lt.mpr (q.2.2.1 h179).1) | exact absurd h192 (Int32.not_lt.mpr (q.2.2.1 h179).2.1) | exact absurd h199 (Int32.not_lt.mpr (q.2.2.1 h179).2.2.1) | exact absurd h212 (Int32.not_lt.mpr (q.2.2.1 h179).2.2.2.1) | exact h225 (q.2.2.1 h179).2.2.2.2 | exact h237 (by rw [(q.2.2.2 h179).1]; rfl) | exact (q.2.2.2 h179).2.1 ⟨h245, h252⟩ | exact (q.2.2.2 h179).2.2.1 ⟨h258, Int32.not_le.mp h265⟩ | exact absurd h279 (Int32.not_lt.mpr ((q.2.2.2 h179).2.2.2 h273).1) | exact absurd h287 (Int32.not_lt.mpr ((q.2.2.2 h179).2.2.2 h273).2.1) | exact h294 ((q.2.2.2 h179).2.2.2 h273).2.2) C1 _ _ f2 f4 (fun y b1 b2 => by show C1 y = C y; rw [eC1, va_up_ne _ _ (by assumption)])
            · refine gj_iload d_Mo_oneLine_261 rfl ?_
              refine gj_ldc d_Mo_oneLine_263 gw_707 ?_
              refine gj_icmp_le (tgt := 270) d_Mo_oneLine_265 (by decide) (fun h265 => ?_) (fun h265 => ?_)
              · refine gj_iload_n d_Mo_oneLine_270 rfl ?_
                refine gj_kb (v := 70) d_Mo_oneLine_271 (by decide) ?_
                refine gj_icmp_ne (tgt := 299) d_Mo_oneLine_273 (by decide) (fun h273 => ?_) (fun h273 => ?_)
                · refine gj_aload_n d_Mo_oneLine_299 rfl ?_
                  refine gj_get d_Mo_oneLine_300 gf_Mo_29 f2 rfl ?_
                  refine gj_iload_n d_Mo_oneLine_303 rfl ?_
                  refine gj_iload_n d_Mo_oneLine_304 rfl ?_
                  refine gj_iast d_Mo_oneLine_305 f4 rfl (vp_in_nI (by omega) (by decide)) ?_
                  obtain ⟨C21, eC21⟩ : ∃ Z0, Z0 = va_up C1 (73) (.inl (0, 300, .inl (upd nr (5 * nl) (L)))) := ⟨_, rfl⟩
                  refine gj_mem (eC21.trans (by rw [nI_clamp (by omega)])) ?_
                  have f22 : C21 (70) = .inr (5, [.int (tc), .ref (71), .int (nI sg), .int (nI li), .ref (72), .int (nI nl), .ref (73), .int (nI (p + 1)), .int (nI ns), .ref (74), .ref (75), .ref (76), .ref (77), .ref (78), .ref (79), .ref (80), .ref (81), .ref (82), .ref (83), .ref (84), .int (nI dy), .ref (85), .ref (86), .ref (87), .ref (88), .ref (89), .ref (90)]) := by rw [eC21, va_up_ne _ _ (by omega)]; exact f2
                  have f23 : C21 (71) = .inl (0, 600, .inl tx) := by rw [eC21, va_up_ne _ _ (by omega)]; exact f3
                  have f24 : C21 (73) = .inl (0, 300, .inl (upd nr (5 * nl) (L))) := by rw [eC21]; exact va_up_self _ _ _
                  refine gj_aload_n d_Mo_oneLine_306 rfl ?_
                  refine gj_dup d_Mo_oneLine_307 rfl ?_
                  refine gj_get d_Mo_oneLine_308 gf_Mo_26 f22 rfl ?_
                  refine gj_kc (v := 1) d_Mo_oneLine_311 (by decide) ?_
                  refine gj_iadd d_Mo_oneLine_312 ?_
                  refine gj_top (y := nI (nl + 1)) (nI_add (nl) (1)) ?_
                  refine gj_put d_Mo_oneLine_313 gp_Mo_26 f22 (Nat.le_of_ble_eq_true rfl) (fun _ => rfl) (fun _ => rfl) ?_
                  obtain ⟨C25, eC25⟩ : ∃ Z0, Z0 = va_up C21 (70) (.inr (5, [.int (tc), .ref (71), .int (nI sg), .int (nI li), .ref (72), .int (nI (nl + 1)), .ref (73), .int (nI (p + 1)), .int (nI ns), .ref (74), .ref (75), .ref (76), .ref (77), .ref (78), .ref (79), .ref (80), .ref (81), .ref (82), .ref (83), .ref (84), .int (nI dy), .ref (85), .ref (86), .ref (87), .ref (88), .ref (89), .ref (90)])) := ⟨_, rfl⟩
                  refine gj_mem eC25 ?_
                  have f26 : C25 (70) = .inr (5, [.int (tc), .ref (71), .int (nI sg), .int (nI li), .ref (72), .int (nI (nl + 1)), .ref (73), .int (nI (p + 1)), .int (nI ns), .ref (74), .ref (75), .ref (76), .ref (77), .ref (78), .ref (79), .ref (80), .ref (81), .ref (82), .ref (83), .ref (84), .int (nI dy), .ref (85), .ref (86), .ref (87), .ref (88), .ref (89), .ref (90)]) := by rw [eC25]; exact va_up_self _ _ _
                  have f27 : C25 (71) = .inl (0, 600, .inl tx) := by rw [eC25, va_up_ne _ _ (by omega)]; exact f23
                  have f28 : C25 (73) = .inl (0, 300, .inl (upd nr (5 * nl) (L))) := by rw [eC25, va_up_ne _ _ (by omega)]; exact f24
                  refine gj_kc (v := 1) d_Mo_oneLine_316 (by decide) ?_
                  refine gj_zret rfl (by first | exact Or.inl rfl | exact Or.inr rfl) (Nat.zero_le _) (Nat.zero_le _) d_Mo_oneLine_317 ?_
                  have hc : pt_at tx sg p = 10 ∧ pm_ok nr nl L := ⟨h122, h171, by first | exact fun _ => ⟨Int32.not_lt.mp h186, Int32.not_lt.mp h192, Int32.not_lt.mp h199, Int32.not_lt.mp h212, h225⟩ | exact fun z => absurd z h179, by first | exact fun z => absurd h179 z | exact fun _ => ⟨pl_sn0 h237, by first | exact fun z => h245 z.1 | exact fun z => h252 z.2, by first | exact fun z => h258 z.1 | exact fun z => absurd h265 (Int32.not_le.mpr z.2), by first | exact fun z => absurd z h273 | exact fun _ => ⟨Int32.not_lt.mp h279, Int32.not_lt.mp h287, h294⟩⟩⟩
                  exact hacc hc C25 f26 f28 (fun y b1 b2 => by show C25 y = C y; rw [eC25, va_up_ne _ _ (by assumption), eC21, va_up_ne _ _ (by assumption), eC1, va_up_ne _ _ (by assumption)])
                · refine gj_iload d_Mo_oneLine_276 rfl ?_
                  refine gj_kc (v := 1) d_Mo_oneLine_278 (by decide) ?_
                  refine gj_icmp_lt (tgt := 297) d_Mo_oneLine_279 (by decide) (fun h279 => ?_) (fun h279 => ?_)
                  · refine gj_kc (v := 0) d_Mo_oneLine_297 (by decide) ?_
                    refine gj_zret rfl (by first | exact Or.inl rfl | exact Or.inr rfl) (Nat.zero_le _) (Nat.zero_le _) d_Mo_oneLine_298 ?_
                    exact href (fun q => by first | exact h122 q.1 | exact h171 q.2.1 | exact absurd h186 (Int32.not_lt.mpr (q.2.2.1 h179).1) | exact absurd h192 (Int32.not_lt.mpr (q.2.2.1 h179).2.1) | exact absurd h199 (Int32.not_lt.mpr (q.2.2.1 h179).2.2.1) | exact absurd h212 (Int32.not_lt.mpr (q.2.2.1 h179).2.2.2.1) | exact h225 (q.2.2.1 h179).2.2.2.2 | exact h237 (by rw [(q.2.2.2 h179).1]; rfl) | exact (q.2.2.2 h179).2.1 ⟨h245, h252⟩ | exact (q.2.2.2 h179).2.2.1 ⟨h258, Int32.not_le.mp h265⟩ | exact absurd h279 (Int32.not_lt.mpr ((q.2.2.2 h179).2.2.2 h273).1) | exact absurd h287 (Int32.not_lt.mpr ((q.2.2.2 h179).2.2.2 h273).2.1) | exact h294 ((q.2.2.2 h179).2.2.2 h273).2.2) C1 _ _ f2 f4 (fun y b1 b2 => by show C1 y = C y; rw [eC1, va_up_ne _ _ (by assumption)])
                  · refine gj_iload d_Mo_oneLine_282 rfl ?_
                    refine gj_ks (v := 1000) d_Mo_oneLine_284 (by decide) ?_
                    refine gj_icmp_gt (tgt := 297) d_Mo_oneLine_287 (by decide) (fun h287 => ?_) (fun h287 => ?_)
                    · refine gj_kc (v := 0) d_Mo_oneLine_297 (by decide) ?_
                      refine gj_zret rfl (by first | exact Or.inl rfl | exact Or.inr rfl) (Nat.zero_le _) (Nat.zero_le _) d_Mo_oneLine_298 ?_
                      exact href (fun q => by first | exact h122 q.1 | exact h171 q.2.1 | exact absurd h186 (Int32.not_lt.mpr (q.2.2.1 h179).1) | exact absurd h192 (Int32.not_lt.mpr (q.2.2.1 h179).2.1) | exact absurd h199 (Int32.not_lt.mpr (q.2.2.1 h179).2.2.1) | exact absurd h212 (Int32.not_lt.mpr (q.2.2.1 h179).2.2.2.1) | exact h225 (q.2.2.1 h179).2.2.2.2 | exact h237 (by rw [(q.2.2.2 h179).1]; rfl) | exact (q.2.2.2 h179).2.1 ⟨h245, h252⟩ | exact (q.2.2.2 h179).2.2.1 ⟨h258, Int32.not_le.mp h265⟩ | exact absurd h279 (Int32.not_lt.mpr ((q.2.2.2 h179).2.2.2 h273).1) | exact absurd h287 (Int32.not_lt.mpr ((q.2.2.2 h179).2.2.2 h273).2.1) | exact h294 ((q.2.2.2 h179).2.2.2 h273).2.2) C1 _ _ f2 f4 (fun y b1 b2 => by show C1 y = C y; rw [eC1, va_up_ne _ _ (by assumption)])
                    · refine gj_iload d_Mo_oneLine_290 rfl ?_
                      refine gj_iload d_Mo_oneLine_292 rfl ?_
                      refine gj_icmp_le (tgt := 299) d_Mo_oneLine_294 (by decide) (fun h294 => ?_) (fun h294 => ?_)
                      · refine gj_aload_n d_Mo_oneLine_299 rfl ?_
                        refine gj_get d_Mo_oneLine_300 gf_Mo_29 f2 rfl ?_
                        refine gj_iload_n d_Mo_oneLine_303 rfl ?_
                        refine gj_iload_n d_Mo_oneLine_304 rfl ?_
                        refine gj_iast d_Mo_oneLine_305 f4 rfl (vp_in_nI (by omega) (by decide)) ?_
                        obtain ⟨C29, eC29⟩ : ∃ Z0, Z0 = va_up C1 (73) (.inl (0, 300, .inl (upd nr (5 * nl) (L)))) := ⟨_, rfl⟩
                        refine gj_mem (eC29.trans (by rw [nI_clamp (by omega)])) ?_
                        have f30 : C29 (70) = .inr (5, [.int (tc), .ref (71), .int (nI sg), .int (nI li), .ref (72), .int (nI nl), .ref (73), .int (nI (p + 1)), .int (nI ns), .ref (74), .ref (75), .ref (76), .ref (77), .ref (78), .ref (79), .ref (80), .ref (81), .ref (82), .ref (83), .ref (84), .int (nI dy), .ref (85), .ref (86), .ref (87), .ref (88), .ref (89), .ref (90)]) := by rw [eC29, va_up_ne _ _ (by omega)]; exact f2
                        have f31 : C29 (71) = .inl (0, 600, .inl tx) := by rw [eC29, va_up_ne _ _ (by omega)]; exact f3
                        have f32 : C29 (73) = .inl (0, 300, .inl (upd nr (5 * nl) (L))) := by rw [eC29]; exact va_up_self _ _ _
                        refine gj_aload_n d_Mo_oneLine_306 rfl ?_
                        refine gj_dup d_Mo_oneLine_307 rfl ?_
                        refine gj_get d_Mo_oneLine_308 gf_Mo_26 f30 rfl ?_
                        refine gj_kc (v := 1) d_Mo_oneLine_311 (by decide) ?_
                        refine gj_iadd d_Mo_oneLine_312 ?_
                        refine gj_top (y := nI (nl + 1)) (nI_add (nl) (1)) ?_
                        refine gj_put d_Mo_oneLine_313 gp_Mo_26 f30 (Nat.le_of_ble_eq_true rfl) (fun _ => rfl) (fun _ => rfl) ?_
                        obtain ⟨C33, eC33⟩ : ∃ Z0, Z0 = va_up C29 (70) (.inr (5, [.int (tc), .ref (71), .int (nI sg), .int (nI li), .ref (72), .int (nI (nl + 1)), .ref (73), .int (nI (p + 1)), .int (nI ns), .ref (74), .ref (75), .ref (76), .ref (77), .ref (78), .ref (79), .ref (80), .ref (81), .ref (82), .ref (83), .ref (84), .int (nI dy), .ref (85), .ref (86), .ref (87), .ref (88), .ref (89), .ref (90)])) := ⟨_, rfl⟩
                        refine gj_mem eC33 ?_
                        have f34 : C33 (70) = .inr (5, [.int (tc), .ref (71), .int (nI sg), .int (nI li), .ref (72), .int (nI (nl + 1)), .ref (73), .int (nI (p + 1)), .int (nI ns), .ref (74), .ref (75), .ref (76), .ref (77), .ref (78), .ref (79), .ref (80), .ref (81), .ref (82), .ref (83), .ref (84), .int (nI dy), .ref (85), .ref (86), .ref (87), .ref (88), .ref (89), .ref (90)]) := by rw [eC33]; exact va_up_self _ _ _
                        have f35 : C33 (71) = .inl (0, 600, .inl tx) := by rw [eC33, va_up_ne _ _ (by omega)]; exact f31
                        have f36 : C33 (73) = .inl (0, 300, .inl (upd nr (5 * nl) (L))) := by rw [eC33, va_up_ne _ _ (by omega)]; exact f32
                        refine gj_kc (v := 1) d_Mo_oneLine_316 (by decide) ?_
                        refine gj_zret rfl (by first | exact Or.inl rfl | exact Or.inr rfl) (Nat.zero_le _) (Nat.zero_le _) d_Mo_oneLine_317 ?_
                        have hc : pt_at tx sg p = 10 ∧ pm_ok nr nl L := ⟨h122, h171, by first | exact fun _ => ⟨Int32.not_lt.mp h186, Int32.not_lt.mp h192, Int32.not_lt.mp h199, Int32.not_lt.mp h212, h225⟩ | exact fun z => absurd z h179, by first | exact fun z => absurd h179 z | exact fun _ => ⟨pl_sn0 h237, by first | exact fun z => h245 z.1 | exact fun z => h252 z.2, by first | exact fun z => h258 z.1 | exact fun z => absurd h265 (Int32.not_le.mpr z.2), by first | exact fun z => absurd z h273 | exact fun _ => ⟨Int32.not_lt.mp h279, Int32.not_lt.mp h287, h294⟩⟩⟩
                        exact hacc hc C33 f34 f36 (fun y b1 b2 => by show C33 y = C y; rw [eC33, va_up_ne _ _ (by assumption), eC29, va_up_ne _ _ (by assumption), eC1, va_up_ne _ _ (by assumption)])
                      · refine gj_kc (v := 0) d_Mo_oneLine_297 (by decide) ?_
                        refine gj_zret rfl (by first | exact Or.inl rfl | exact Or.inr rfl) (Nat.zero_le _) (Nat.zero_le _) d_Mo_oneLine_298 ?_
                        exact href (fun q => by first | exact h122 q.1 | exact h171 q.2.1 | exact absurd h186 (Int32.not_lt.mpr (q.2.2.1 h179).1) | exact absurd h192 (Int32.not_lt.mpr (q.2.2.1 h179).2.1) | exact absurd h199 (Int32.not_lt.mpr (q.2.2.1 h179).2.2.1) | exact absurd h212 (Int32.not_lt.mpr (q.2.2.1 h179).2.2.2.1) | exact h225 (q.2.2.1 h179).2.2.2.2 | exact h237 (by rw [(q.2.2.2 h179).1]; rfl) | exact (q.2.2.2 h179).2.1 ⟨h245, h252⟩ | exact (q.2.2.2 h179).2.2.1 ⟨h258, Int32.not_le.mp h265⟩ | exact absurd h279 (Int32.not_lt.mpr ((q.2.2.2 h179).2.2.2 h273).1) | exact absurd h287 (Int32.not_lt.mpr ((q.2.2.2 h179).2.2.2 h273).2.1) | exact h294 ((q.2.2.2 h179).2.2.2 h273).2.2) C1 _ _ f2 f4 (fun y b1 b2 => by show C1 y = C y; rw [eC1, va_up_ne _ _ (by assumption)])
              · refine gj_kc (v := 0) d_Mo_oneLine_268 (by decide) ?_
                refine gj_zret rfl (by first | exact Or.inl rfl | exact Or.inr rfl) (Nat.zero_le _) (Nat.zero_le _) d_Mo_oneLine_269 ?_
                exact href (fun q => by first | exact h122 q.1 | exact h171 q.2.1 | exact absurd h186 (Int32.not_lt.mpr (q.2.2.1 h179).1) | exact absurd h192 (Int32.not_lt.mpr (q.2.2.1 h179).2.1) | exact absurd h199 (Int32.not_lt.mpr (q.2.2.1 h179).2.2.1) | exact absurd h212 (Int32.not_lt.mpr (q.2.2.1 h179).2.2.2.1) | exact h225 (q.2.2.1 h179).2.2.2.2 | exact h237 (by rw [(q.2.2.2 h179).1]; rfl) | exact (q.2.2.2 h179).2.1 ⟨h245, h252⟩ | exact (q.2.2.2 h179).2.2.1 ⟨h258, Int32.not_le.mp h265⟩ | exact absurd h279 (Int32.not_lt.mpr ((q.2.2.2 h179).2.2.2 h273).1) | exact absurd h287 (Int32.not_lt.mpr ((q.2.2.2 h179).2.2.2 h273).2.1) | exact h294 ((q.2.2.2 h179).2.2.2 h273).2.2) C1 _ _ f2 f4 (fun y b1 b2 => by show C1 y = C y; rw [eC1, va_up_ne _ _ (by assumption)])
          · refine gj_iload d_Mo_oneLine_248 rfl ?_
            refine gj_ldc d_Mo_oneLine_250 gw_706 ?_
            refine gj_icmp_gt (tgt := 268) d_Mo_oneLine_252 (by decide) (fun h252 => ?_) (fun h252 => ?_)
            · refine gj_kc (v := 0) d_Mo_oneLine_268 (by decide) ?_
              refine gj_zret rfl (by first | exact Or.inl rfl | exact Or.inr rfl) (Nat.zero_le _) (Nat.zero_le _) d_Mo_oneLine_269 ?_
              exact href (fun q => by first | exact h122 q.1 | exact h171 q.2.1 | exact absurd h186 (Int32.not_lt.mpr (q.2.2.1 h179).1) | exact absurd h192 (Int32.not_lt.mpr (q.2.2.1 h179).2.1) | exact absurd h199 (Int32.not_lt.mpr (q.2.2.1 h179).2.2.1) | exact absurd h212 (Int32.not_lt.mpr (q.2.2.1 h179).2.2.2.1) | exact h225 (q.2.2.1 h179).2.2.2.2 | exact h237 (by rw [(q.2.2.2 h179).1]; rfl) | exact (q.2.2.2 h179).2.1 ⟨h245, h252⟩ | exact (q.2.2.2 h179).2.2.1 ⟨h258, Int32.not_le.mp h265⟩ | exact absurd h279 (Int32.not_lt.mpr ((q.2.2.2 h179).2.2.2 h273).1) | exact absurd h287 (Int32.not_lt.mpr ((q.2.2.2 h179).2.2.2 h273).2.1) | exact h294 ((q.2.2.2 h179).2.2.2 h273).2.2) C1 _ _ f2 f4 (fun y b1 b2 => by show C1 y = C y; rw [eC1, va_up_ne _ _ (by assumption)])
            · refine gj_iload_n d_Mo_oneLine_255 rfl ?_
              refine gj_kb (v := 77) d_Mo_oneLine_256 (by decide) ?_
              refine gj_icmp_ne (tgt := 270) d_Mo_oneLine_258 (by decide) (fun h258 => ?_) (fun h258 => ?_)
              · refine gj_iload_n d_Mo_oneLine_270 rfl ?_
                refine gj_kb (v := 70) d_Mo_oneLine_271 (by decide) ?_
                refine gj_icmp_ne (tgt := 299) d_Mo_oneLine_273 (by decide) (fun h273 => ?_) (fun h273 => ?_)
                · refine gj_aload_n d_Mo_oneLine_299 rfl ?_
                  refine gj_get d_Mo_oneLine_300 gf_Mo_29 f2 rfl ?_
                  refine gj_iload_n d_Mo_oneLine_303 rfl ?_
                  refine gj_iload_n d_Mo_oneLine_304 rfl ?_
                  refine gj_iast d_Mo_oneLine_305 f4 rfl (vp_in_nI (by omega) (by decide)) ?_
                  obtain ⟨C37, eC37⟩ : ∃ Z0, Z0 = va_up C1 (73) (.inl (0, 300, .inl (upd nr (5 * nl) (L)))) := ⟨_, rfl⟩
                  refine gj_mem (eC37.trans (by rw [nI_clamp (by omega)])) ?_
                  have f38 : C37 (70) = .inr (5, [.int (tc), .ref (71), .int (nI sg), .int (nI li), .ref (72), .int (nI nl), .ref (73), .int (nI (p + 1)), .int (nI ns), .ref (74), .ref (75), .ref (76), .ref (77), .ref (78), .ref (79), .ref (80), .ref (81), .ref (82), .ref (83), .ref (84), .int (nI dy), .ref (85), .ref (86), .ref (87), .ref (88), .ref (89), .ref (90)]) := by rw [eC37, va_up_ne _ _ (by omega)]; exact f2
                  have f39 : C37 (71) = .inl (0, 600, .inl tx) := by rw [eC37, va_up_ne _ _ (by omega)]; exact f3
                  have f40 : C37 (73) = .inl (0, 300, .inl (upd nr (5 * nl) (L))) := by rw [eC37]; exact va_up_self _ _ _
                  refine gj_aload_n d_Mo_oneLine_306 rfl ?_
                  refine gj_dup d_Mo_oneLine_307 rfl ?_
                  refine gj_get d_Mo_oneLine_308 gf_Mo_26 f38 rfl ?_
                  refine gj_kc (v := 1) d_Mo_oneLine_311 (by decide) ?_
                  refine gj_iadd d_Mo_oneLine_312 ?_
                  refine gj_top (y := nI (nl + 1)) (nI_add (nl) (1)) ?_
                  refine gj_put d_Mo_oneLine_313 gp_Mo_26 f38 (Nat.le_of_ble_eq_true rfl) (fun _ => rfl) (fun _ => rfl) ?_
                  obtain ⟨C41, eC41⟩ : ∃ Z0, Z0 = va_up C37 (70) (.inr (5, [.int (tc), .ref (71), .int (nI sg), .int (nI li), .ref (72), .int (nI (nl + 1)), .ref (73), .int (nI (p + 1)), .int (nI ns), .ref (74), .ref (75), .ref (76), .ref (77), .ref (78), .ref (79), .ref (80), .ref (81), .ref (82), .ref (83), .ref (84), .int (nI dy), .ref (85), .ref (86), .ref (87), .ref (88), .ref (89), .ref (90)])) := ⟨_, rfl⟩
                  refine gj_mem eC41 ?_
                  have f42 : C41 (70) = .inr (5, [.int (tc), .ref (71), .int (nI sg), .int (nI li), .ref (72), .int (nI (nl + 1)), .ref (73), .int (nI (p + 1)), .int (nI ns), .ref (74), .ref (75), .ref (76), .ref (77), .ref (78), .ref (79), .ref (80), .ref (81), .ref (82), .ref (83), .ref (84), .int (nI dy), .ref (85), .ref (86), .ref (87), .ref (88), .ref (89), .ref (90)]) := by rw [eC41]; exact va_up_self _ _ _
                  have f43 : C41 (71) = .inl (0, 600, .inl tx) := by rw [eC41, va_up_ne _ _ (by omega)]; exact f39
                  have f44 : C41 (73) = .inl (0, 300, .inl (upd nr (5 * nl) (L))) := by rw [eC41, va_up_ne _ _ (by omega)]; exact f40
                  refine gj_kc (v := 1) d_Mo_oneLine_316 (by decide) ?_
                  refine gj_zret rfl (by first | exact Or.inl rfl | exact Or.inr rfl) (Nat.zero_le _) (Nat.zero_le _) d_Mo_oneLine_317 ?_
                  have hc : pt_at tx sg p = 10 ∧ pm_ok nr nl L := ⟨h122, h171, by first | exact fun _ => ⟨Int32.not_lt.mp h186, Int32.not_lt.mp h192, Int32.not_lt.mp h199, Int32.not_lt.mp h212, h225⟩ | exact fun z => absurd z h179, by first | exact fun z => absurd h179 z | exact fun _ => ⟨pl_sn0 h237, by first | exact fun z => h245 z.1 | exact fun z => h252 z.2, by first | exact fun z => h258 z.1 | exact fun z => absurd h265 (Int32.not_le.mpr z.2), by first | exact fun z => absurd z h273 | exact fun _ => ⟨Int32.not_lt.mp h279, Int32.not_lt.mp h287, h294⟩⟩⟩
                  exact hacc hc C41 f42 f44 (fun y b1 b2 => by show C41 y = C y; rw [eC41, va_up_ne _ _ (by assumption), eC37, va_up_ne _ _ (by assumption), eC1, va_up_ne _ _ (by assumption)])
                · refine gj_iload d_Mo_oneLine_276 rfl ?_
                  refine gj_kc (v := 1) d_Mo_oneLine_278 (by decide) ?_
                  refine gj_icmp_lt (tgt := 297) d_Mo_oneLine_279 (by decide) (fun h279 => ?_) (fun h279 => ?_)
                  · refine gj_kc (v := 0) d_Mo_oneLine_297 (by decide) ?_
                    refine gj_zret rfl (by first | exact Or.inl rfl | exact Or.inr rfl) (Nat.zero_le _) (Nat.zero_le _) d_Mo_oneLine_298 ?_
                    exact href (fun q => by first | exact h122 q.1 | exact h171 q.2.1 | exact absurd h186 (Int32.not_lt.mpr (q.2.2.1 h179).1) | exact absurd h192 (Int32.not_lt.mpr (q.2.2.1 h179).2.1) | exact absurd h199 (Int32.not_lt.mpr (q.2.2.1 h179).2.2.1) | exact absurd h212 (Int32.not_lt.mpr (q.2.2.1 h179).2.2.2.1) | exact h225 (q.2.2.1 h179).2.2.2.2 | exact h237 (by rw [(q.2.2.2 h179).1]; rfl) | exact (q.2.2.2 h179).2.1 ⟨h245, h252⟩ | exact (q.2.2.2 h179).2.2.1 ⟨h258, Int32.not_le.mp h265⟩ | exact absurd h279 (Int32.not_lt.mpr ((q.2.2.2 h179).2.2.2 h273).1) | exact absurd h287 (Int32.not_lt.mpr ((q.2.2.2 h179).2.2.2 h273).2.1) | exact h294 ((q.2.2.2 h179).2.2.2 h273).2.2) C1 _ _ f2 f4 (fun y b1 b2 => by show C1 y = C y; rw [eC1, va_up_ne _ _ (by assumption)])
                  · refine gj_iload d_Mo_oneLine_282 rfl ?_
                    refine gj_ks (v := 1000) d_Mo_oneLine_284 (by decide) ?_
                    refine gj_icmp_gt (tgt := 297) d_Mo_oneLine_287 (by decide) (fun h287 => ?_) (fun h287 => ?_)
                    · refine gj_kc (v := 0) d_Mo_oneLine_297 (by decide) ?_
                      refine gj_zret rfl (by first | exact Or.inl rfl | exact Or.inr rfl) (Nat.zero_le _) (Nat.zero_le _) d_Mo_oneLine_298 ?_
                      exact href (fun q => by first | exact h122 q.1 | exact h171 q.2.1 | exact absurd h186 (Int32.not_lt.mpr (q.2.2.1 h179).1) | exact absurd h192 (Int32.not_lt.mpr (q.2.2.1 h179).2.1) | exact absurd h199 (Int32.not_lt.mpr (q.2.2.1 h179).2.2.1) | exact absurd h212 (Int32.not_lt.mpr (q.2.2.1 h179).2.2.2.1) | exact h225 (q.2.2.1 h179).2.2.2.2 | exact h237 (by rw [(q.2.2.2 h179).1]; rfl) | exact (q.2.2.2 h179).2.1 ⟨h245, h252⟩ | exact (q.2.2.2 h179).2.2.1 ⟨h258, Int32.not_le.mp h265⟩ | exact absurd h279 (Int32.not_lt.mpr ((q.2.2.2 h179).2.2.2 h273).1) | exact absurd h287 (Int32.not_lt.mpr ((q.2.2.2 h179).2.2.2 h273).2.1) | exact h294 ((q.2.2.2 h179).2.2.2 h273).2.2) C1 _ _ f2 f4 (fun y b1 b2 => by show C1 y = C y; rw [eC1, va_up_ne _ _ (by assumption)])
                    · refine gj_iload d_Mo_oneLine_290 rfl ?_
                      refine gj_iload d_Mo_oneLine_292 rfl ?_
                      refine gj_icmp_le (tgt := 299) d_Mo_oneLine_294 (by decide) (fun h294 => ?_) (fun h294 => ?_)
                      · refine gj_aload_n d_Mo_oneLine_299 rfl ?_
                        refine gj_get d_Mo_oneLine_300 gf_Mo_29 f2 rfl ?_
                        refine gj_iload_n d_Mo_oneLine_303 rfl ?_
                        refine gj_iload_n d_Mo_oneLine_304 rfl ?_
                        refine gj_iast d_Mo_oneLine_305 f4 rfl (vp_in_nI (by omega) (by decide)) ?_
                        obtain ⟨C45, eC45⟩ : ∃ Z0, Z0 = va_up C1 (73) (.inl (0, 300, .inl (upd nr (5 * nl) (L)))) := ⟨_, rfl⟩
                        refine gj_mem (eC45.trans (by rw [nI_clamp (by omega)])) ?_
                        have f46 : C45 (70) = .inr (5, [.int (tc), .ref (71), .int (nI sg), .int (nI li), .ref (72), .int (nI nl), .ref (73), .int (nI (p + 1)), .int (nI ns), .ref (74), .ref (75), .ref (76), .ref (77), .ref (78), .ref (79), .ref (80), .ref (81), .ref (82), .ref (83), .ref (84), .int (nI dy), .ref (85), .ref (86), .ref (87), .ref (88), .ref (89), .ref (90)]) := by rw [eC45, va_up_ne _ _ (by omega)]; exact f2
                        have f47 : C45 (71) = .inl (0, 600, .inl tx) := by rw [eC45, va_up_ne _ _ (by omega)]; exact f3
                        have f48 : C45 (73) = .inl (0, 300, .inl (upd nr (5 * nl) (L))) := by rw [eC45]; exact va_up_self _ _ _
                        refine gj_aload_n d_Mo_oneLine_306 rfl ?_
                        refine gj_dup d_Mo_oneLine_307 rfl ?_
                        refine gj_get d_Mo_oneLine_308 gf_Mo_26 f46 rfl ?_
                        refine gj_kc (v := 1) d_Mo_oneLine_311 (by decide) ?_
                        refine gj_iadd d_Mo_oneLine_312 ?_
                        refine gj_top (y := nI (nl + 1)) (nI_add (nl) (1)) ?_
                        refine gj_put d_Mo_oneLine_313 gp_Mo_26 f46 (Nat.le_of_ble_eq_true rfl) (fun _ => rfl) (fun _ => rfl) ?_
                        obtain ⟨C49, eC49⟩ : ∃ Z0, Z0 = va_up C45 (70) (.inr (5, [.int (tc), .ref (71), .int (nI sg), .int (nI li), .ref (72), .int (nI (nl + 1)), .ref (73), .int (nI (p + 1)), .int (nI ns), .ref (74), .ref (75), .ref (76), .ref (77), .ref (78), .ref (79), .ref (80), .ref (81), .ref (82), .ref (83), .ref (84), .int (nI dy), .ref (85), .ref (86), .ref (87), .ref (88), .ref (89), .ref (90)])) := ⟨_, rfl⟩
                        refine gj_mem eC49 ?_
                        have f50 : C49 (70) = .inr (5, [.int (tc), .ref (71), .int (nI sg), .int (nI li), .ref (72), .int (nI (nl + 1)), .ref (73), .int (nI (p + 1)), .int (nI ns), .ref (74), .ref (75), .ref (76), .ref (77), .ref (78), .ref (79), .ref (80), .ref (81), .ref (82), .ref (83), .ref (84), .int (nI dy), .ref (85), .ref (86), .ref (87), .ref (88), .ref (89), .ref (90)]) := by rw [eC49]; exact va_up_self _ _ _
                        have f51 : C49 (71) = .inl (0, 600, .inl tx) := by rw [eC49, va_up_ne _ _ (by omega)]; exact f47
                        have f52 : C49 (73) = .inl (0, 300, .inl (upd nr (5 * nl) (L))) := by rw [eC49, va_up_ne _ _ (by omega)]; exact f48
                        refine gj_kc (v := 1) d_Mo_oneLine_316 (by decide) ?_
                        refine gj_zret rfl (by first | exact Or.inl rfl | exact Or.inr rfl) (Nat.zero_le _) (Nat.zero_le _) d_Mo_oneLine_317 ?_
                        have hc : pt_at tx sg p = 10 ∧ pm_ok nr nl L := ⟨h122, h171, by first | exact fun _ => ⟨Int32.not_lt.mp h186, Int32.not_lt.mp h192, Int32.not_lt.mp h199, Int32.not_lt.mp h212, h225⟩ | exact fun z => absurd z h179, by first | exact fun z => absurd h179 z | exact fun _ => ⟨pl_sn0 h237, by first | exact fun z => h245 z.1 | exact fun z => h252 z.2, by first | exact fun z => h258 z.1 | exact fun z => absurd h265 (Int32.not_le.mpr z.2), by first | exact fun z => absurd z h273 | exact fun _ => ⟨Int32.not_lt.mp h279, Int32.not_lt.mp h287, h294⟩⟩⟩
                        exact hacc hc C49 f50 f52 (fun y b1 b2 => by show C49 y = C y; rw [eC49, va_up_ne _ _ (by assumption), eC45, va_up_ne _ _ (by assumption), eC1, va_up_ne _ _ (by assumption)])
                      · refine gj_kc (v := 0) d_Mo_oneLine_297 (by decide) ?_
                        refine gj_zret rfl (by first | exact Or.inl rfl | exact Or.inr rfl) (Nat.zero_le _) (Nat.zero_le _) d_Mo_oneLine_298 ?_
                        exact href (fun q => by first | exact h122 q.1 | exact h171 q.2.1 | exact absurd h186 (Int32.not_lt.mpr (q.2.2.1 h179).1) | exact absurd h192 (Int32.not_lt.mpr (q.2.2.1 h179).2.1) | exact absurd h199 (Int32.not_lt.mpr (q.2.2.1 h179).2.2.1) | exact absurd h212 (Int32.not_lt.mpr (q.2.2.1 h179).2.2.2.1) | exact h225 (q.2.2.1 h179).2.2.2.2 | exact h237 (by rw [(q.2.2.2 h179).1]; rfl) | exact (q.2.2.2 h179).2.1 ⟨h245, h252⟩ | exact (q.2.2.2 h179).2.2.1 ⟨h258, Int32.not_le.mp h265⟩ | exact absurd h279 (Int32.not_lt.mpr ((q.2.2.2 h179).2.2.2 h273).1) | exact absurd h287 (Int32.not_lt.mpr ((q.2.2.2 h179).2.2.2 h273).2.1) | exact h294 ((q.2.2.2 h179).2.2.2 h273).2.2) C1 _ _ f2 f4 (fun y b1 b2 => by show C1 y = C y; rw [eC1, va_up_ne _ _ (by assumption)])
              · refine gj_iload d_Mo_oneLine_261 rfl ?_
                refine gj_ldc d_Mo_oneLine_263 gw_707 ?_
                refine gj_icmp_le (tgt := 270) d_Mo_oneLine_265 (by decide) (fun h265 => ?_) (fun h265 => ?_)
                · refine gj_iload_n d_Mo_oneLine_270 rfl ?_
                  refine gj_kb (v := 70) d_Mo_oneLine_271 (by decide) ?_
                  refine gj_icmp_ne (tgt := 299) d_Mo_oneLine_273 (by decide) (fun h273 => ?_) (fun h273 => ?_)
                  · refine gj_aload_n d_Mo_oneLine_299 rfl ?_
                    refine gj_get d_Mo_oneLine_300 gf_Mo_29 f2 rfl ?_
                    refine gj_iload_n d_Mo_oneLine_303 rfl ?_
                    refine gj_iload_n d_Mo_oneLine_304 rfl ?_
                    refine gj_iast d_Mo_oneLine_305 f4 rfl (vp_in_nI (by omega) (by decide)) ?_
                    obtain ⟨C53, eC53⟩ : ∃ Z0, Z0 = va_up C1 (73) (.inl (0, 300, .inl (upd nr (5 * nl) (L)))) := ⟨_, rfl⟩
                    refine gj_mem (eC53.trans (by rw [nI_clamp (by omega)])) ?_
                    have f54 : C53 (70) = .inr (5, [.int (tc), .ref (71), .int (nI sg), .int (nI li), .ref (72), .int (nI nl), .ref (73), .int (nI (p + 1)), .int (nI ns), .ref (74), .ref (75), .ref (76), .ref (77), .ref (78), .ref (79), .ref (80), .ref (81), .ref (82), .ref (83), .ref (84), .int (nI dy), .ref (85), .ref (86), .ref (87), .ref (88), .ref (89), .ref (90)]) := by rw [eC53, va_up_ne _ _ (by omega)]; exact f2
                    have f55 : C53 (71) = .inl (0, 600, .inl tx) := by rw [eC53, va_up_ne _ _ (by omega)]; exact f3
                    have f56 : C53 (73) = .inl (0, 300, .inl (upd nr (5 * nl) (L))) := by rw [eC53]; exact va_up_self _ _ _
                    refine gj_aload_n d_Mo_oneLine_306 rfl ?_
                    refine gj_dup d_Mo_oneLine_307 rfl ?_
                    refine gj_get d_Mo_oneLine_308 gf_Mo_26 f54 rfl ?_
                    refine gj_kc (v := 1) d_Mo_oneLine_311 (by decide) ?_
                    refine gj_iadd d_Mo_oneLine_312 ?_
                    refine gj_top (y := nI (nl + 1)) (nI_add (nl) (1)) ?_
                    refine gj_put d_Mo_oneLine_313 gp_Mo_26 f54 (Nat.le_of_ble_eq_true rfl) (fun _ => rfl) (fun _ => rfl) ?_
                    obtain ⟨C57, eC57⟩ : ∃ Z0, Z0 = va_up C53 (70) (.inr (5, [.int (tc), .ref (71), .int (nI sg), .int (nI li), .ref (72), .int (nI (nl + 1)), .ref (73), .int (nI (p + 1)), .int (nI ns), .ref (74), .ref (75), .ref (76), .ref (77), .ref (78), .ref (79), .ref (80), .ref (81), .ref (82), .ref (83), .ref (84), .int (nI dy), .ref (85), .ref (86), .ref (87), .ref (88), .ref (89), .ref (90)])) := ⟨_, rfl⟩
                    refine gj_mem eC57 ?_
                    have f58 : C57 (70) = .inr (5, [.int (tc), .ref (71), .int (nI sg), .int (nI li), .ref (72), .int (nI (nl + 1)), .ref (73), .int (nI (p + 1)), .int (nI ns), .ref (74), .ref (75), .ref (76), .ref (77), .ref (78), .ref (79), .ref (80), .ref (81), .ref (82), .ref (83), .ref (84), .int (nI dy), .ref (85), .ref (86), .ref (87), .ref (88), .ref (89), .ref (90)]) := by rw [eC57]; exact va_up_self _ _ _
                    have f59 : C57 (71) = .inl (0, 600, .inl tx) := by rw [eC57, va_up_ne _ _ (by omega)]; exact f55
                    have f60 : C57 (73) = .inl (0, 300, .inl (upd nr (5 * nl) (L))) := by rw [eC57, va_up_ne _ _ (by omega)]; exact f56
                    refine gj_kc (v := 1) d_Mo_oneLine_316 (by decide) ?_
                    refine gj_zret rfl (by first | exact Or.inl rfl | exact Or.inr rfl) (Nat.zero_le _) (Nat.zero_le _) d_Mo_oneLine_317 ?_
                    have hc : pt_at tx sg p = 10 ∧ pm_ok nr nl L := ⟨h122, h171, by first | exact fun _ => ⟨Int32.not_lt.mp h186, Int32.not_lt.mp h192, Int32.not_lt.mp h199, Int32.not_lt.mp h212, h225⟩ | exact fun z => absurd z h179, by first | exact fun z => absurd h179 z | exact fun _ => ⟨pl_sn0 h237, by first | exact fun z => h245 z.1 | exact fun z => h252 z.2, by first | exact fun z => h258 z.1 | exact fun z => absurd h265 (Int32.not_le.mpr z.2), by first | exact fun z => absurd z h273 | exact fun _ => ⟨Int32.not_lt.mp h279, Int32.not_lt.mp h287, h294⟩⟩⟩
                    exact hacc hc C57 f58 f60 (fun y b1 b2 => by show C57 y = C y; rw [eC57, va_up_ne _ _ (by assumption), eC53, va_up_ne _ _ (by assumption), eC1, va_up_ne _ _ (by assumption)])
                  · refine gj_iload d_Mo_oneLine_276 rfl ?_
                    refine gj_kc (v := 1) d_Mo_oneLine_278 (by decide) ?_
                    refine gj_icmp_lt (tgt := 297) d_Mo_oneLine_279 (by decide) (fun h279 => ?_) (fun h279 => ?_)
                    · refine gj_kc (v := 0) d_Mo_oneLine_297 (by decide) ?_
                      refine gj_zret rfl (by first | exact Or.inl rfl | exact Or.inr rfl) (Nat.zero_le _) (Nat.zero_le _) d_Mo_oneLine_298 ?_
                      exact href (fun q => by first | exact h122 q.1 | exact h171 q.2.1 | exact absurd h186 (Int32.not_lt.mpr (q.2.2.1 h179).1) | exact absurd h192 (Int32.not_lt.mpr (q.2.2.1 h179).2.1) | exact absurd h199 (Int32.not_lt.mpr (q.2.2.1 h179).2.2.1) | exact absurd h212 (Int32.not_lt.mpr (q.2.2.1 h179).2.2.2.1) | exact h225 (q.2.2.1 h179).2.2.2.2 | exact h237 (by rw [(q.2.2.2 h179).1]; rfl) | exact (q.2.2.2 h179).2.1 ⟨h245, h252⟩ | exact (q.2.2.2 h179).2.2.1 ⟨h258, Int32.not_le.mp h265⟩ | exact absurd h279 (Int32.not_lt.mpr ((q.2.2.2 h179).2.2.2 h273).1) | exact absurd h287 (Int32.not_lt.mpr ((q.2.2.2 h179).2.2.2 h273).2.1) | exact h294 ((q.2.2.2 h179).2.2.2 h273).2.2) C1 _ _ f2 f4 (fun y b1 b2 => by show C1 y = C y; rw [eC1, va_up_ne _ _ (by assumption)])
                    · refine gj_iload d_Mo_oneLine_282 rfl ?_
                      refine gj_ks (v := 1000) d_Mo_oneLine_284 (by decide) ?_
                      refine gj_icmp_gt (tgt := 297) d_Mo_oneLine_287 (by decide) (fun h287 => ?_) (fun h287 => ?_)
                      · refine gj_kc (v := 0) d_Mo_oneLine_297 (by decide) ?_
                        refine gj_zret rfl (by first | exact Or.inl rfl | exact Or.inr rfl) (Nat.zero_le _) (Nat.zero_le _) d_Mo_oneLine_298 ?_
                        exact href (fun q => by first | exact h122 q.1 | exact h171 q.2.1 | exact absurd h186 (Int32.not_lt.mpr (q.2.2.1 h179).1) | exact absurd h192 (Int32.not_lt.mpr (q.2.2.1 h179).2.1) | exact absurd h199 (Int32.not_lt.mpr (q.2.2.1 h179).2.2.1) | exact absurd h212 (Int32.not_lt.mpr (q.2.2.1 h179).2.2.2.1) | exact h225 (q.2.2.1 h179).2.2.2.2 | exact h237 (by rw [(q.2.2.2 h179).1]; rfl) | exact (q.2.2.2 h179).2.1 ⟨h245, h252⟩ | exact (q.2.2.2 h179).2.2.1 ⟨h258, Int32.not_le.mp h265⟩ | exact absurd h279 (Int32.not_lt.mpr ((q.2.2.2 h179).2.2.2 h273).1) | exact absurd h287 (Int32.not_lt.mpr ((q.2.2.2 h179).2.2.2 h273).2.1) | exact h294 ((q.2.2.2 h179).2.2.2 h273).2.2) C1 _ _ f2 f4 (fun y b1 b2 => by show C1 y = C y; rw [eC1, va_up_ne _ _ (by assumption)])
                      · refine gj_iload d_Mo_oneLine_290 rfl ?_
                        refine gj_iload d_Mo_oneLine_292 rfl ?_
                        refine gj_icmp_le (tgt := 299) d_Mo_oneLine_294 (by decide) (fun h294 => ?_) (fun h294 => ?_)
                        · refine gj_aload_n d_Mo_oneLine_299 rfl ?_
                          refine gj_get d_Mo_oneLine_300 gf_Mo_29 f2 rfl ?_
                          refine gj_iload_n d_Mo_oneLine_303 rfl ?_
                          refine gj_iload_n d_Mo_oneLine_304 rfl ?_
                          refine gj_iast d_Mo_oneLine_305 f4 rfl (vp_in_nI (by omega) (by decide)) ?_
                          obtain ⟨C61, eC61⟩ : ∃ Z0, Z0 = va_up C1 (73) (.inl (0, 300, .inl (upd nr (5 * nl) (L)))) := ⟨_, rfl⟩
                          refine gj_mem (eC61.trans (by rw [nI_clamp (by omega)])) ?_
                          have f62 : C61 (70) = .inr (5, [.int (tc), .ref (71), .int (nI sg), .int (nI li), .ref (72), .int (nI nl), .ref (73), .int (nI (p + 1)), .int (nI ns), .ref (74), .ref (75), .ref (76), .ref (77), .ref (78), .ref (79), .ref (80), .ref (81), .ref (82), .ref (83), .ref (84), .int (nI dy), .ref (85), .ref (86), .ref (87), .ref (88), .ref (89), .ref (90)]) := by rw [eC61, va_up_ne _ _ (by omega)]; exact f2
                          have f63 : C61 (71) = .inl (0, 600, .inl tx) := by rw [eC61, va_up_ne _ _ (by omega)]; exact f3
                          have f64 : C61 (73) = .inl (0, 300, .inl (upd nr (5 * nl) (L))) := by rw [eC61]; exact va_up_self _ _ _
                          refine gj_aload_n d_Mo_oneLine_306 rfl ?_
                          refine gj_dup d_Mo_oneLine_307 rfl ?_
                          refine gj_get d_Mo_oneLine_308 gf_Mo_26 f62 rfl ?_
                          refine gj_kc (v := 1) d_Mo_oneLine_311 (by decide) ?_
                          refine gj_iadd d_Mo_oneLine_312 ?_
                          refine gj_top (y := nI (nl + 1)) (nI_add (nl) (1)) ?_
                          refine gj_put d_Mo_oneLine_313 gp_Mo_26 f62 (Nat.le_of_ble_eq_true rfl) (fun _ => rfl) (fun _ => rfl) ?_
                          obtain ⟨C65, eC65⟩ : ∃ Z0, Z0 = va_up C61 (70) (.inr (5, [.int (tc), .ref (71), .int (nI sg), .int (nI li), .ref (72), .int (nI (nl + 1)), .ref (73), .int (nI (p + 1)), .int (nI ns), .ref (74), .ref (75), .ref (76), .ref (77), .ref (78), .ref (79), .ref (80), .ref (81), .ref (82), .ref (83), .ref (84), .int (nI dy), .ref (85), .ref (86), .ref (87), .ref (88), .ref (89), .ref (90)])) := ⟨_, rfl⟩
                          refine gj_mem eC65 ?_
                          have f66 : C65 (70) = .inr (5, [.int (tc), .ref (71), .int (nI sg), .int (nI li), .ref (72), .int (nI (nl + 1)), .ref (73), .int (nI (p + 1)), .int (nI ns), .ref (74), .ref (75), .ref (76), .ref (77), .ref (78), .ref (79), .ref (80), .ref (81), .ref (82), .ref (83), .ref (84), .int (nI dy), .ref (85), .ref (86), .ref (87), .ref (88), .ref (89), .ref (90)]) := by rw [eC65]; exact va_up_self _ _ _
                          have f67 : C65 (71) = .inl (0, 600, .inl tx) := by rw [eC65, va_up_ne _ _ (by omega)]; exact f63
                          have f68 : C65 (73) = .inl (0, 300, .inl (upd nr (5 * nl) (L))) := by rw [eC65, va_up_ne _ _ (by omega)]; exact f64
                          refine gj_kc (v := 1) d_Mo_oneLine_316 (by decide) ?_
                          refine gj_zret rfl (by first | exact Or.inl rfl | exact Or.inr rfl) (Nat.zero_le _) (Nat.zero_le _) d_Mo_oneLine_317 ?_
                          have hc : pt_at tx sg p = 10 ∧ pm_ok nr nl L := ⟨h122, h171, by first | exact fun _ => ⟨Int32.not_lt.mp h186, Int32.not_lt.mp h192, Int32.not_lt.mp h199, Int32.not_lt.mp h212, h225⟩ | exact fun z => absurd z h179, by first | exact fun z => absurd h179 z | exact fun _ => ⟨pl_sn0 h237, by first | exact fun z => h245 z.1 | exact fun z => h252 z.2, by first | exact fun z => h258 z.1 | exact fun z => absurd h265 (Int32.not_le.mpr z.2), by first | exact fun z => absurd z h273 | exact fun _ => ⟨Int32.not_lt.mp h279, Int32.not_lt.mp h287, h294⟩⟩⟩
                          exact hacc hc C65 f66 f68 (fun y b1 b2 => by show C65 y = C y; rw [eC65, va_up_ne _ _ (by assumption), eC61, va_up_ne _ _ (by assumption), eC1, va_up_ne _ _ (by assumption)])
                        · refine gj_kc (v := 0) d_Mo_oneLine_297 (by decide) ?_
                          refine gj_zret rfl (by first | exact Or.inl rfl | exact Or.inr rfl) (Nat.zero_le _) (Nat.zero_le _) d_Mo_oneLine_298 ?_
                          exact href (fun q => by first | exact h122 q.1 | exact h171 q.2.1 | exact absurd h186 (Int32.not_lt.mpr (q.2.2.1 h179).1) | exact absurd h192 (Int32.not_lt.mpr (q.2.2.1 h179).2.1) | exact absurd h199 (Int32.not_lt.mpr (q.2.2.1 h179).2.2.1) | exact absurd h212 (Int32.not_lt.mpr (q.2.2.1 h179).2.2.2.1) | exact h225 (q.2.2.1 h179).2.2.2.2 | exact h237 (by rw [(q.2.2.2 h179).1]; rfl) | exact (q.2.2.2 h179).2.1 ⟨h245, h252⟩ | exact (q.2.2.2 h179).2.2.1 ⟨h258, Int32.not_le.mp h265⟩ | exact absurd h279 (Int32.not_lt.mpr ((q.2.2.2 h179).2.2.2 h273).1) | exact absurd h287 (Int32.not_lt.mpr ((q.2.2.2 h179).2.2.2 h273).2.1) | exact h294 ((q.2.2.2 h179).2.2.2 h273).2.2) C1 _ _ f2 f4 (fun y b1 b2 => by show C1 y = C y; rw [eC1, va_up_ne _ _ (by assumption)])
                · refine gj_kc (v := 0) d_Mo_oneLine_268 (by decide) ?_
                  refine gj_zret rfl (by first | exact Or.inl rfl | exact Or.inr rfl) (Nat.zero_le _) (Nat.zero_le _) d_Mo_oneLine_269 ?_
                  exact href (fun q => by first | exact h122 q.1 | exact h171 q.2.1 | exact absurd h186 (Int32.not_lt.mpr (q.2.2.1 h179).1) | exact absurd h192 (Int32.not_lt.mpr (q.2.2.1 h179).2.1) | exact absurd h199 (Int32.not_lt.mpr (q.2.2.1 h179).2.2.1) | exact absurd h212 (Int32.not_lt.mpr (q.2.2.1 h179).2.2.2.1) | exact h225 (q.2.2.1 h179).2.2.2.2 | exact h237 (by rw [(q.2.2.2 h179).1]; rfl) | exact (q.2.2.2 h179).2.1 ⟨h245, h252⟩ | exact (q.2.2.2 h179).2.2.1 ⟨h258, Int32.not_le.mp h265⟩ | exact absurd h279 (Int32.not_lt.mpr ((q.2.2.2 h179).2.2.2 h273).1) | exact absurd h287 (Int32.not_lt.mpr ((q.2.2.2 h179).2.2.2 h273).2.1) | exact h294 ((q.2.2.2 h179).2.2.2 h273).2.2) C1 _ _ f2 f4 (fun y b1 b2 => by show C1 y = C y; rw [eC1, va_up_ne _ _ (by assumption)])
        · refine gj_kc (v := 0) d_Mo_oneLine_240 (by decide) ?_
          refine gj_zret rfl (by first | exact Or.inl rfl | exact Or.inr rfl) (Nat.zero_le _) (Nat.zero_le _) d_Mo_oneLine_241 ?_
          exact href (fun q => by first | exact h122 q.1 | exact h171 q.2.1 | exact absurd h186 (Int32.not_lt.mpr (q.2.2.1 h179).1) | exact absurd h192 (Int32.not_lt.mpr (q.2.2.1 h179).2.1) | exact absurd h199 (Int32.not_lt.mpr (q.2.2.1 h179).2.2.1) | exact absurd h212 (Int32.not_lt.mpr (q.2.2.1 h179).2.2.2.1) | exact h225 (q.2.2.1 h179).2.2.2.2 | exact h237 (by rw [(q.2.2.2 h179).1]; rfl) | exact (q.2.2.2 h179).2.1 ⟨h245, h252⟩ | exact (q.2.2.2 h179).2.2.1 ⟨h258, Int32.not_le.mp h265⟩ | exact absurd h279 (Int32.not_lt.mpr ((q.2.2.2 h179).2.2.2 h273).1) | exact absurd h287 (Int32.not_lt.mpr ((q.2.2.2 h179).2.2.2 h273).2.1) | exact h294 ((q.2.2.2 h179).2.2.2 h273).2.2) C1 _ _ f2 f4 (fun y b1 b2 => by show C1 y = C y; rw [eC1, va_up_ne _ _ (by assumption)])
      · refine gj_iload d_Mo_oneLine_182 rfl ?_
        refine gj_kb (v := 9) d_Mo_oneLine_184 (by decide) ?_
        refine gj_icmp_gt (tgt := 228) d_Mo_oneLine_186 (by decide) (fun h186 => ?_) (fun h186 => ?_)
        · refine gj_kc (v := 0) d_Mo_oneLine_228 (by decide) ?_
          refine gj_zret rfl (by first | exact Or.inl rfl | exact Or.inr rfl) (Nat.zero_le _) (Nat.zero_le _) d_Mo_oneLine_229 ?_
          exact href (fun q => by first | exact h122 q.1 | exact h171 q.2.1 | exact absurd h186 (Int32.not_lt.mpr (q.2.2.1 h179).1) | exact absurd h192 (Int32.not_lt.mpr (q.2.2.1 h179).2.1) | exact absurd h199 (Int32.not_lt.mpr (q.2.2.1 h179).2.2.1) | exact absurd h212 (Int32.not_lt.mpr (q.2.2.1 h179).2.2.2.1) | exact h225 (q.2.2.1 h179).2.2.2.2 | exact h237 (by rw [(q.2.2.2 h179).1]; rfl) | exact (q.2.2.2 h179).2.1 ⟨h245, h252⟩ | exact (q.2.2.2 h179).2.2.1 ⟨h258, Int32.not_le.mp h265⟩ | exact absurd h279 (Int32.not_lt.mpr ((q.2.2.2 h179).2.2.2 h273).1) | exact absurd h287 (Int32.not_lt.mpr ((q.2.2.2 h179).2.2.2 h273).2.1) | exact h294 ((q.2.2.2 h179).2.2.2 h273).2.2) C1 _ _ f2 f4 (fun y b1 b2 => by show C1 y = C y; rw [eC1, va_up_ne _ _ (by assumption)])
        · refine gj_iload d_Mo_oneLine_189 rfl ?_
          refine gj_kc (v := 1) d_Mo_oneLine_191 (by decide) ?_
          refine gj_icmp_lt (tgt := 228) d_Mo_oneLine_192 (by decide) (fun h192 => ?_) (fun h192 => ?_)
          · refine gj_kc (v := 0) d_Mo_oneLine_228 (by decide) ?_
            refine gj_zret rfl (by first | exact Or.inl rfl | exact Or.inr rfl) (Nat.zero_le _) (Nat.zero_le _) d_Mo_oneLine_229 ?_
            exact href (fun q => by first | exact h122 q.1 | exact h171 q.2.1 | exact absurd h186 (Int32.not_lt.mpr (q.2.2.1 h179).1) | exact absurd h192 (Int32.not_lt.mpr (q.2.2.1 h179).2.1) | exact absurd h199 (Int32.not_lt.mpr (q.2.2.1 h179).2.2.1) | exact absurd h212 (Int32.not_lt.mpr (q.2.2.1 h179).2.2.2.1) | exact h225 (q.2.2.1 h179).2.2.2.2 | exact h237 (by rw [(q.2.2.2 h179).1]; rfl) | exact (q.2.2.2 h179).2.1 ⟨h245, h252⟩ | exact (q.2.2.2 h179).2.2.1 ⟨h258, Int32.not_le.mp h265⟩ | exact absurd h279 (Int32.not_lt.mpr ((q.2.2.2 h179).2.2.2 h273).1) | exact absurd h287 (Int32.not_lt.mpr ((q.2.2.2 h179).2.2.2 h273).2.1) | exact h294 ((q.2.2.2 h179).2.2.2 h273).2.2) C1 _ _ f2 f4 (fun y b1 b2 => by show C1 y = C y; rw [eC1, va_up_ne _ _ (by assumption)])
          · refine gj_iload d_Mo_oneLine_195 rfl ?_
            refine gj_ldc d_Mo_oneLine_197 gw_706 ?_
            refine gj_icmp_gt (tgt := 228) d_Mo_oneLine_199 (by decide) (fun h199 => ?_) (fun h199 => ?_)
            · refine gj_kc (v := 0) d_Mo_oneLine_228 (by decide) ?_
              refine gj_zret rfl (by first | exact Or.inl rfl | exact Or.inr rfl) (Nat.zero_le _) (Nat.zero_le _) d_Mo_oneLine_229 ?_
              exact href (fun q => by first | exact h122 q.1 | exact h171 q.2.1 | exact absurd h186 (Int32.not_lt.mpr (q.2.2.1 h179).1) | exact absurd h192 (Int32.not_lt.mpr (q.2.2.1 h179).2.1) | exact absurd h199 (Int32.not_lt.mpr (q.2.2.1 h179).2.2.1) | exact absurd h212 (Int32.not_lt.mpr (q.2.2.1 h179).2.2.2.1) | exact h225 (q.2.2.1 h179).2.2.2.2 | exact h237 (by rw [(q.2.2.2 h179).1]; rfl) | exact (q.2.2.2 h179).2.1 ⟨h245, h252⟩ | exact (q.2.2.2 h179).2.2.1 ⟨h258, Int32.not_le.mp h265⟩ | exact absurd h279 (Int32.not_lt.mpr ((q.2.2.2 h179).2.2.2 h273).1) | exact absurd h287 (Int32.not_lt.mpr ((q.2.2.2 h179).2.2.2 h273).2.1) | exact h294 ((q.2.2.2 h179).2.2.2 h273).2.2) C1 _ _ f2 f4 (fun y b1 b2 => by show C1 y = C y; rw [eC1, va_up_ne _ _ (by assumption)])
            · refine gj_aload_n d_Mo_oneLine_202 rfl ?_
              refine gj_get d_Mo_oneLine_203 gf_Mo_29 f2 rfl ?_
              refine gj_iload_n d_Mo_oneLine_206 rfl ?_
              refine gj_kc (v := 4) d_Mo_oneLine_207 (by decide) ?_
              refine gj_iadd d_Mo_oneLine_208 ?_
              refine gj_top (y := nI ((5 * nl) + 4)) (nI_add (5 * nl) (4)) ?_
              refine gj_iald d_Mo_oneLine_209 f4 rfl (vp_in_nI (by omega) (by decide)) ?_
              refine gj_top (y := nr ((5 * nl) + 4)) (congrArg nr (nI_clamp (by omega))) ?_
              refine gj_ldc d_Mo_oneLine_210 gw_707 ?_
              refine gj_icmp_gt (tgt := 228) d_Mo_oneLine_212 (by decide) (fun h212 => ?_) (fun h212 => ?_)
              · refine gj_kc (v := 0) d_Mo_oneLine_228 (by decide) ?_
                refine gj_zret rfl (by first | exact Or.inl rfl | exact Or.inr rfl) (Nat.zero_le _) (Nat.zero_le _) d_Mo_oneLine_229 ?_
                exact href (fun q => by first | exact h122 q.1 | exact h171 q.2.1 | exact absurd h186 (Int32.not_lt.mpr (q.2.2.1 h179).1) | exact absurd h192 (Int32.not_lt.mpr (q.2.2.1 h179).2.1) | exact absurd h199 (Int32.not_lt.mpr (q.2.2.1 h179).2.2.1) | exact absurd h212 (Int32.not_lt.mpr (q.2.2.1 h179).2.2.2.1) | exact h225 (q.2.2.1 h179).2.2.2.2 | exact h237 (by rw [(q.2.2.2 h179).1]; rfl) | exact (q.2.2.2 h179).2.1 ⟨h245, h252⟩ | exact (q.2.2.2 h179).2.2.1 ⟨h258, Int32.not_le.mp h265⟩ | exact absurd h279 (Int32.not_lt.mpr ((q.2.2.2 h179).2.2.2 h273).1) | exact absurd h287 (Int32.not_lt.mpr ((q.2.2.2 h179).2.2.2 h273).2.1) | exact h294 ((q.2.2.2 h179).2.2.2 h273).2.2) C1 _ _ f2 f4 (fun y b1 b2 => by show C1 y = C y; rw [eC1, va_up_ne _ _ (by assumption)])
              · refine gj_iload d_Mo_oneLine_215 rfl ?_
                refine gj_aload_n d_Mo_oneLine_217 rfl ?_
                refine gj_iload d_Mo_oneLine_218 rfl ?_
                refine gj_iload d_Mo_oneLine_220 rfl ?_
                refine gj_callV (as := [.int (nr ((5 * nl) + 1)), .int (nr ((5 * nl) + 2))]) (rest := [.int (nr ((5 * nl) + 3))]) (K1 := 0) (N1 := 0) d_Mo_oneLine_222 mo_Mo_heaviest gw_708 gw_710 gw_12 f2 rfl pl_Mo_heaviest (Nat.le_of_ble_eq_true rfl) (Nat.le_of_ble_eq_true rfl) (Nat.zero_le _) (Nat.zero_le _) (c_Mo_heaviest f2 f4 (by omega)) (fun E n' C' _ h => by cases h) (fun v n' C' _ h => ?_)
                cases h
                refine gj_icmp_gt (tgt := 299) d_Mo_oneLine_225 (by decide) (fun h225 => ?_) (fun h225 => ?_)
                · refine gj_aload_n d_Mo_oneLine_299 rfl ?_
                  refine gj_get d_Mo_oneLine_300 gf_Mo_29 f2 rfl ?_
                  refine gj_iload_n d_Mo_oneLine_303 rfl ?_
                  refine gj_iload_n d_Mo_oneLine_304 rfl ?_
                  refine gj_iast d_Mo_oneLine_305 f4 rfl (vp_in_nI (by omega) (by decide)) ?_
                  obtain ⟨C69, eC69⟩ : ∃ Z0, Z0 = va_up C1 (73) (.inl (0, 300, .inl (upd nr (5 * nl) (L)))) := ⟨_, rfl⟩
                  refine gj_mem (eC69.trans (by rw [nI_clamp (by omega)])) ?_
                  have f70 : C69 (70) = .inr (5, [.int (tc), .ref (71), .int (nI sg), .int (nI li), .ref (72), .int (nI nl), .ref (73), .int (nI (p + 1)), .int (nI ns), .ref (74), .ref (75), .ref (76), .ref (77), .ref (78), .ref (79), .ref (80), .ref (81), .ref (82), .ref (83), .ref (84), .int (nI dy), .ref (85), .ref (86), .ref (87), .ref (88), .ref (89), .ref (90)]) := by rw [eC69, va_up_ne _ _ (by omega)]; exact f2
                  have f71 : C69 (71) = .inl (0, 600, .inl tx) := by rw [eC69, va_up_ne _ _ (by omega)]; exact f3
                  have f72 : C69 (73) = .inl (0, 300, .inl (upd nr (5 * nl) (L))) := by rw [eC69]; exact va_up_self _ _ _
                  refine gj_aload_n d_Mo_oneLine_306 rfl ?_
                  refine gj_dup d_Mo_oneLine_307 rfl ?_
                  refine gj_get d_Mo_oneLine_308 gf_Mo_26 f70 rfl ?_
                  refine gj_kc (v := 1) d_Mo_oneLine_311 (by decide) ?_
                  refine gj_iadd d_Mo_oneLine_312 ?_
                  refine gj_top (y := nI (nl + 1)) (nI_add (nl) (1)) ?_
                  refine gj_put d_Mo_oneLine_313 gp_Mo_26 f70 (Nat.le_of_ble_eq_true rfl) (fun _ => rfl) (fun _ => rfl) ?_
                  obtain ⟨C73, eC73⟩ : ∃ Z0, Z0 = va_up C69 (70) (.inr (5, [.int (tc), .ref (71), .int (nI sg), .int (nI li), .ref (72), .int (nI (nl + 1)), .ref (73), .int (nI (p + 1)), .int (nI ns), .ref (74), .ref (75), .ref (76), .ref (77), .ref (78), .ref (79), .ref (80), .ref (81), .ref (82), .ref (83), .ref (84), .int (nI dy), .ref (85), .ref (86), .ref (87), .ref (88), .ref (89), .ref (90)])) := ⟨_, rfl⟩
                  refine gj_mem eC73 ?_
                  have f74 : C73 (70) = .inr (5, [.int (tc), .ref (71), .int (nI sg), .int (nI li), .ref (72), .int (nI (nl + 1)), .ref (73), .int (nI (p + 1)), .int (nI ns), .ref (74), .ref (75), .ref (76), .ref (77), .ref (78), .ref (79), .ref (80), .ref (81), .ref (82), .ref (83), .ref (84), .int (nI dy), .ref (85), .ref (86), .ref (87), .ref (88), .ref (89), .ref (90)]) := by rw [eC73]; exact va_up_self _ _ _
                  have f75 : C73 (71) = .inl (0, 600, .inl tx) := by rw [eC73, va_up_ne _ _ (by omega)]; exact f71
                  have f76 : C73 (73) = .inl (0, 300, .inl (upd nr (5 * nl) (L))) := by rw [eC73, va_up_ne _ _ (by omega)]; exact f72
                  refine gj_kc (v := 1) d_Mo_oneLine_316 (by decide) ?_
                  refine gj_zret rfl (by first | exact Or.inl rfl | exact Or.inr rfl) (Nat.zero_le _) (Nat.zero_le _) d_Mo_oneLine_317 ?_
                  have hc : pt_at tx sg p = 10 ∧ pm_ok nr nl L := ⟨h122, h171, by first | exact fun _ => ⟨Int32.not_lt.mp h186, Int32.not_lt.mp h192, Int32.not_lt.mp h199, Int32.not_lt.mp h212, h225⟩ | exact fun z => absurd z h179, by first | exact fun z => absurd h179 z | exact fun _ => ⟨pl_sn0 h237, by first | exact fun z => h245 z.1 | exact fun z => h252 z.2, by first | exact fun z => h258 z.1 | exact fun z => absurd h265 (Int32.not_le.mpr z.2), by first | exact fun z => absurd z h273 | exact fun _ => ⟨Int32.not_lt.mp h279, Int32.not_lt.mp h287, h294⟩⟩⟩
                  exact hacc hc C73 f74 f76 (fun y b1 b2 => by show C73 y = C y; rw [eC73, va_up_ne _ _ (by assumption), eC69, va_up_ne _ _ (by assumption), eC1, va_up_ne _ _ (by assumption)])
                · refine gj_kc (v := 0) d_Mo_oneLine_228 (by decide) ?_
                  refine gj_zret rfl (by first | exact Or.inl rfl | exact Or.inr rfl) (Nat.zero_le _) (Nat.zero_le _) d_Mo_oneLine_229 ?_
                  exact href (fun q => by first | exact h122 q.1 | exact h171 q.2.1 | exact absurd h186 (Int32.not_lt.mpr (q.2.2.1 h179).1) | exact absurd h192 (Int32.not_lt.mpr (q.2.2.1 h179).2.1) | exact absurd h199 (Int32.not_lt.mpr (q.2.2.1 h179).2.2.1) | exact absurd h212 (Int32.not_lt.mpr (q.2.2.1 h179).2.2.2.1) | exact h225 (q.2.2.1 h179).2.2.2.2 | exact h237 (by rw [(q.2.2.2 h179).1]; rfl) | exact (q.2.2.2 h179).2.1 ⟨h245, h252⟩ | exact (q.2.2.2 h179).2.2.1 ⟨h258, Int32.not_le.mp h265⟩ | exact absurd h279 (Int32.not_lt.mpr ((q.2.2.2 h179).2.2.2 h273).1) | exact absurd h287 (Int32.not_lt.mpr ((q.2.2.2 h179).2.2.2 h273).2.1) | exact h294 ((q.2.2.2 h179).2.2.2 h273).2.2) C1 _ _ f2 f4 (fun y b1 b2 => by show C1 y = C y; rw [eC1, va_up_ne _ _ (by assumption)])
    · refine gj_kc (v := 0) d_Mo_oneLine_174 (by decide) ?_
      refine gj_zret rfl (by first | exact Or.inl rfl | exact Or.inr rfl) (Nat.zero_le _) (Nat.zero_le _) d_Mo_oneLine_175 ?_
      exact href (fun q => by first | exact h122 q.1 | exact h171 q.2.1 | exact absurd h186 (Int32.not_lt.mpr (q.2.2.1 h179).1) | exact absurd h192 (Int32.not_lt.mpr (q.2.2.1 h179).2.1) | exact absurd h199 (Int32.not_lt.mpr (q.2.2.1 h179).2.2.1) | exact absurd h212 (Int32.not_lt.mpr (q.2.2.1 h179).2.2.2.1) | exact h225 (q.2.2.1 h179).2.2.2.2 | exact h237 (by rw [(q.2.2.2 h179).1]; rfl) | exact (q.2.2.2 h179).2.1 ⟨h245, h252⟩ | exact (q.2.2.2 h179).2.2.1 ⟨h258, Int32.not_le.mp h265⟩ | exact absurd h279 (Int32.not_lt.mpr ((q.2.2.2 h179).2.2.2 h273).1) | exact absurd h287 (Int32.not_lt.mpr ((q.2.2.2 h179).2.2.2 h273).2.1) | exact h294 ((q.2.2.2 h179).2.2.2 h273).2.2) C1 _ _ f2 f4 (fun y b1 b2 => by show C1 y = C y; rw [eC1, va_up_ne _ _ (by assumption)])
  · refine gj_kc (v := 0) d_Mo_oneLine_125 (by decide) ?_
    refine gj_zret rfl (by first | exact Or.inl rfl | exact Or.inr rfl) (Nat.zero_le _) (Nat.zero_le _) d_Mo_oneLine_126 ?_
    exact href (fun q => by first | exact h122 q.1 | exact h171 q.2.1 | exact absurd h186 (Int32.not_lt.mpr (q.2.2.1 h179).1) | exact absurd h192 (Int32.not_lt.mpr (q.2.2.1 h179).2.1) | exact absurd h199 (Int32.not_lt.mpr (q.2.2.1 h179).2.2.1) | exact absurd h212 (Int32.not_lt.mpr (q.2.2.1 h179).2.2.2.1) | exact h225 (q.2.2.1 h179).2.2.2.2 | exact h237 (by rw [(q.2.2.2 h179).1]; rfl) | exact (q.2.2.2 h179).2.1 ⟨h245, h252⟩ | exact (q.2.2.2 h179).2.2.1 ⟨h258, Int32.not_le.mp h265⟩ | exact absurd h279 (Int32.not_lt.mpr ((q.2.2.2 h179).2.2.2 h273).1) | exact absurd h287 (Int32.not_lt.mpr ((q.2.2.2 h179).2.2.2 h273).2.1) | exact h294 ((q.2.2.2 h179).2.2.2 h273).2.2) C _ _ m70 m73 (fun _ _ _ => rfl)
set_option maxHeartbeats 2000000 in
theorem c_Mo_oneLine_loop {d K N n sg li nl ns dy wn : Nat} {tc L : Int32} {tx : Nat → Int32} (hsg : sg ≤ 600) (hnl : nl < 60) (hw : wn ≤ 4) {Q : gj_R → Prop} : ∀ (m : Nat) (i : Nat) (p : Nat) (nr : Nat → Int32) (C : Nat → va_E), i + m = wn + 1 → 1 ≤ i → p ≤ 700 → C 70 = .inr (5, [.int (tc), .ref (71), .int (nI sg), .int (nI li), .ref (72), .int (nI nl), .ref (73), .int (nI p), .int (nI ns), .ref (74), .ref (75), .ref (76), .ref (77), .ref (78), .ref (79), .ref (80), .ref (81), .ref (82), .ref (83), .ref (84), .int (nI dy), .ref (85), .ref (86), .ref (87), .ref (88), .ref (89), .ref (90)]) → C 71 = .inl (0, 600, .inl tx) → C 73 = .inl (0, 300, .inl nr) → (∀ (C2 : Nat → va_E) (p2 : Nat) (g2 : Nat → Int32), pm_run tx sg m (5 * nl + i) p nr = (true, p2, g2) → p2 ≤ 700 → C2 70 = .inr (5, [.int (tc), .ref (71), .int (nI sg), .int (nI li), .ref (72), .int (nI nl), .ref (73), .int (nI p2), .int (nI ns), .ref (74), .ref (75), .ref (76), .ref (77), .ref (78), .ref (79), .ref (80), .ref (81), .ref (82), .ref (83), .ref (84), .int (nI dy), .ref (85), .ref (86), .ref (87), .ref (88), .ref (89), .ref (90)]) → C2 73 = .inl (0, 300, .inl g2) → (∀ y, y ≠ 70 → y ≠ 73 → C2 y = C y) → gj_G md_Mo_oneLine (d + 2) K N 0 0 116 [(0, .ref (70)), (1, .int (L)), (3, .int (nI (5 * nl)))] [] n C2 Q) → (∀ (C2 : Nat → va_E) (p2 : Nat) (g2 : Nat → Int32), (pm_run tx sg m (5 * nl + i) p nr).1 = false → C2 70 = .inr (5, [.int (tc), .ref (71), .int (nI sg), .int (nI li), .ref (72), .int (nI nl), .ref (73), .int (nI p2), .int (nI ns), .ref (74), .ref (75), .ref (76), .ref (77), .ref (78), .ref (79), .ref (80), .ref (81), .ref (82), .ref (83), .ref (84), .int (nI dy), .ref (85), .ref (86), .ref (87), .ref (88), .ref (89), .ref (90)]) → C2 73 = .inl (0, 300, .inl g2) → (∀ y, y ≠ 70 → y ≠ 73 → C2 y = C y) → Q (gj_iv 0, n, C2)) → gj_G md_Mo_oneLine (d + 2) K N 0 0 80 [(0, .ref (70)), (1, .int (L)), (2, .int (nI wn)), (3, .int (nI (5 * nl))), (4, .int (nI i))] [] (n) C Q := by
  intro m
  induction m with
  | zero =>
    intro i p nr C hm hi1 hp m70 m71 m73 hok hno
    refine gj_iload d_Mo_oneLine_80 rfl ?_
    refine gj_iload_n d_Mo_oneLine_82 rfl ?_
    refine gj_icmp_gt (tgt := 116) d_Mo_oneLine_83 (by decide) (fun h83 => ?_) (fun h83 => by have m83 : ¬ (wn < i) := fun q => h83 ((nI_ltI (a := wn) (b := i) (by omega) (by omega)).mpr q); exact absurd (show wn < i from by omega) m83)
    have m83 : wn < i := (nI_ltI (a := wn) (b := i) (by omega) (by omega)).mp h83
    refine gj_less (lc' := [(0, .ref (70)), (1, .int (L)), (3, .int (nI (5 * nl)))]) ⟨rfl, rfl, rfl, trivial⟩ ?_
    exact hok C p nr rfl hp m70 m73 (fun _ _ _ => rfl)
  | succ m ih =>
    intro i p nr C hm hi1 hp m70 m71 m73 hok hno
    refine gj_iload d_Mo_oneLine_80 rfl ?_
    refine gj_iload_n d_Mo_oneLine_82 rfl ?_
    refine gj_icmp_gt (tgt := 116) d_Mo_oneLine_83 (by decide) (fun h83 => by have m83 : wn < i := (nI_ltI (a := wn) (b := i) (by omega) (by omega)).mp h83; exact absurd m83 (show ¬ (wn < i) from by omega)) (fun h83 => ?_)
    have m83 : ¬ (wn < i) := fun q => h83 ((nI_ltI (a := wn) (b := i) (by omega) (by omega)).mpr q)
    refine gj_aload_n d_Mo_oneLine_86 rfl ?_
    refine gj_callV (as := []) (rest := []) (K1 := 0) (N1 := 0) d_Mo_oneLine_87 mo_Mo_number gw_702 gw_704 gw_11 m70 rfl pl_Mo_number (Nat.le_of_ble_eq_true rfl) (Nat.le_of_ble_eq_true rfl) (Nat.zero_le _) (Nat.zero_le _) (c_Mo_number m70 m71 hsg hp) (fun E n' C' _ h => by obtain ⟨hv, -⟩ := h; exact nomatch hv) (fun v1 n1 C1 _ h1 => ?_)
    obtain ⟨hv1, hn1, u1_0, hr1⟩ := h1
    dsimp only [gj_iv, gj_vv, gj_lv2] at hv1 hn1 hr1 u1_0
    cases hv1; cases hn1
    have f2 : C1 (71) = .inl (0, 600, .inl tx) := (hr1 _ (by omega)).trans m71
    have f3 : C1 (73) = .inl (0, 300, .inl nr) := (hr1 _ (by omega)).trans m73
    refine gj_istore d_Mo_oneLine_90 (by decide) ?_
    refine gj_iload d_Mo_oneLine_92 rfl ?_
    refine gj_if_ge (tgt := 99) d_Mo_oneLine_94 (by decide) (fun h94 => ?_) (fun h94 => ?_)
    · refine gj_aload_n d_Mo_oneLine_99 rfl ?_
      refine gj_get d_Mo_oneLine_100 gf_Mo_29 u1_0 rfl ?_
      refine gj_iload_n d_Mo_oneLine_103 rfl ?_
      refine gj_iload d_Mo_oneLine_104 rfl ?_
      refine gj_iadd d_Mo_oneLine_106 ?_
      refine gj_top (y := nI ((5 * nl) + i)) (nI_add (5 * nl) (i)) ?_
      refine gj_iload d_Mo_oneLine_107 rfl ?_
      refine gj_iast d_Mo_oneLine_109 f3 rfl (vp_in_nI (by omega) (by decide)) ?_
      obtain ⟨C4, eC4⟩ : ∃ Z0, Z0 = va_up C1 (73) (.inl (0, 300, .inl (upd nr ((5 * nl) + i) (pm_num tx sg p)))) := ⟨_, rfl⟩
      refine gj_mem (eC4.trans (by rw [nI_clamp (by omega)])) ?_
      have f5 : C4 (70) = .inr (5, [.int (tc), .ref (71), .int (nI sg), .int (nI li), .ref (72), .int (nI nl), .ref (73), .int (nI (pm_np tx sg p)), .int (nI ns), .ref (74), .ref (75), .ref (76), .ref (77), .ref (78), .ref (79), .ref (80), .ref (81), .ref (82), .ref (83), .ref (84), .int (nI dy), .ref (85), .ref (86), .ref (87), .ref (88), .ref (89), .ref (90)]) := by rw [eC4, va_up_ne _ _ (by omega)]; exact u1_0
      have f6 : C4 (71) = .inl (0, 600, .inl tx) := by rw [eC4, va_up_ne _ _ (by omega)]; exact f2
      have f7 : C4 (73) = .inl (0, 300, .inl (upd nr ((5 * nl) + i) (pm_num tx sg p))) := by rw [eC4]; exact va_up_self _ _ _
      refine gj_iincN d_Mo_oneLine_110 rfl (by decide) ?_
      refine gj_goto (tgt := 80) d_Mo_oneLine_113 (by decide) ?_
      refine gj_less (lc' := [(0, .ref (70)), (1, .int (L)), (2, .int (nI wn)), (3, .int (nI (5 * nl))), (4, .int (nI (i + 1)))]) ⟨rfl, rfl, rfl, rfl, rfl, trivial⟩ ?_
      have e : pm_run tx sg (m + 1) (5 * nl + i) p nr = pm_run tx sg m (5 * nl + (i + 1)) (pm_np tx sg p) (upd nr (5 * nl + i) (pm_num tx sg p)) := if_neg (Int32.not_lt.mpr h94)
      have zf : ∀ y, y ≠ 70 → y ≠ 73 → C4 y = C y := fun y b1 b2 => by rw [eC4, va_up_ne _ _ b2]; exact hr1 y b1
      refine ih (i + 1) _ _ C4 (by omega) (by omega) (pm_np_le hsg hp) f5 f6 f7 (fun C2 p2 g2 a0 a1 a2 a3 a4 => hok C2 p2 g2 (e.trans a0) a1 a2 a3 (fun y b1 b2 => (a4 y b1 b2).trans (zf y b1 b2))) (fun C2 p2 g2 a0 a2 a3 a4 => hno C2 p2 g2 (by rw [e]; exact a0) a2 a3 (fun y b1 b2 => (a4 y b1 b2).trans (zf y b1 b2)))
    · refine gj_kc (v := 0) d_Mo_oneLine_97 (by decide) ?_
      refine gj_zret rfl (by first | exact Or.inl rfl | exact Or.inr rfl) (Nat.zero_le _) (Nat.zero_le _) d_Mo_oneLine_98 ?_
      exact hno C1 _ _ (by rw [show pm_run tx sg (m + 1) (5 * nl + i) p nr = (false, pm_np tx sg p, nr) from if_pos (Int32.not_le.mp h94)]) u1_0 f3 (fun y b1 b2 => hr1 y b1)
/-- the line at p may be taken -/
def pm_acc (tx : Nat → Int32) (sg nl p : Nat) (nr : Nat → Int32) : Prop := nl < 60 ∧ ¬ pt_nbN (pt_at tx sg p) = 0 ∧ (pm_run tx sg (pt_nbN (pt_at tx sg p)) (5 * nl + 1) (p + 1) nr).1 = true ∧ pt_at tx sg (pm_run tx sg (pt_nbN (pt_at tx sg p)) (5 * nl + 1) (p + 1) nr).2.1 = 10 ∧ pm_ok (pm_run tx sg (pt_nbN (pt_at tx sg p)) (5 * nl + 1) (p + 1) nr).2.2 nl (pt_at tx sg p)
set_option maxHeartbeats 2000000 in
theorem c_Mo_oneLine {d K N n sg li nl p ns dy : Nat} {tc : Int32} {tx nr : Nat → Int32} {C : Nat → va_E} (m70 : C (70) = .inr (5, [.int (tc), .ref (71), .int (nI sg), .int (nI li), .ref (72), .int (nI nl), .ref (73), .int (nI p), .int (nI ns), .ref (74), .ref (75), .ref (76), .ref (77), .ref (78), .ref (79), .ref (80), .ref (81), .ref (82), .ref (83), .ref (84), .int (nI dy), .ref (85), .ref (86), .ref (87), .ref (88), .ref (89), .ref (90)])) (m71 : C (71) = .inl (0, 600, .inl tx)) (m73 : C (73) = .inl (0, 300, .inl nr)) (hsg : sg ≤ 600) (hp : p ≤ 600) (hnl : nl ≤ 60) : gj_G md_Mo_oneLine (d + 2) K N 0 0 0 [(0, .ref (70))] [] (n) C (fun r => r.2.1 = n ∧ (∀ y, y ≠ 70 → y ≠ 73 → r.2.2 y = C y) ∧ ((pm_acc tx sg nl p nr ∧ r.1 = gj_iv 1 ∧ r.2.2 70 = .inr (5, [.int (tc), .ref (71), .int (nI sg), .int (nI li), .ref (72), .int (nI (nl + 1)), .ref (73), .int (nI ((pm_run tx sg (pt_nbN (pt_at tx sg p)) (5 * nl + 1) (p + 1) nr).2.1 + 1)), .int (nI ns), .ref (74), .ref (75), .ref (76), .ref (77), .ref (78), .ref (79), .ref (80), .ref (81), .ref (82), .ref (83), .ref (84), .int (nI dy), .ref (85), .ref (86), .ref (87), .ref (88), .ref (89), .ref (90)]) ∧ r.2.2 73 = .inl (0, 300, .inl (upd (pm_run tx sg (pt_nbN (pt_at tx sg p)) (5 * nl + 1) (p + 1) nr).2.2 (5 * nl) (pt_at tx sg p)))) ∨ (¬ pm_acc tx sg nl p nr ∧ r.1 = gj_iv 0 ∧ ∃ p2 g2, r.2.2 70 = .inr (5, [.int (tc), .ref (71), .int (nI sg), .int (nI li), .ref (72), .int (nI nl), .ref (73), .int (nI p2), .int (nI ns), .ref (74), .ref (75), .ref (76), .ref (77), .ref (78), .ref (79), .ref (80), .ref (81), .ref (82), .ref (83), .ref (84), .int (nI dy), .ref (85), .ref (86), .ref (87), .ref (88), .ref (89), .ref (90)]) ∧ r.2.2 73 = .inl (0, 300, .inl g2)))) := by
  refine gj_aload_n d_Mo_oneLine_0 rfl ?_
  refine gj_get d_Mo_oneLine_1 gf_Mo_26 m70 rfl ?_
  refine gj_kb (v := 60) d_Mo_oneLine_4 (by decide) ?_
  refine gj_icmp_ne (tgt := 11) d_Mo_oneLine_6 (by decide) (fun h6 => ?_) (fun h6 => ?_)
  · have m6 : ¬ (nl = 60) := fun q => h6 ((nI_eq (a := nl) (b := 60) (by omega) (by omega)).mpr q)
    refine gj_aload_n d_Mo_oneLine_11 rfl ?_
    refine gj_callV (as := []) (rest := []) (K1 := 0) (N1 := 0) d_Mo_oneLine_12 mo_Mo_here gw_698 gw_700 gw_10 m70 rfl pl_Mo_here (Nat.le_of_ble_eq_true rfl) (Nat.le_of_ble_eq_true rfl) (Nat.zero_le _) (Nat.zero_le _) (c_Mo_here m70 m71 hsg (by omega)) (fun E n' C' _ h => by cases h) (fun v n' C' _ h => ?_)
    cases h
    refine gj_istore_n d_Mo_oneLine_15 (by decide) ?_
    have hnl2 : nl < 60 := by omega
    have hw4 := pt_nbN_le (pt_at tx sg p)
    suffices hJ : gj_G md_Mo_oneLine (d + 2) K N 0 0 53 [(0, .ref 70), (1, .int (pt_at tx sg p))] [.int (nI (pt_nbN (pt_at tx sg p)))] n C _ by
      refine gj_iload_n d_Mo_oneLine_16 rfl ?_
      refine gj_kb (v := 82) d_Mo_oneLine_17 (by decide) ?_
      refine gj_icmp_ne (tgt := 26) d_Mo_oneLine_19 (by decide) (fun h19 => ?_) (fun h19 => ?_)
      · refine gj_iload_n d_Mo_oneLine_26 rfl ?_
        refine gj_kb (v := 70) d_Mo_oneLine_27 (by decide) ?_
        refine gj_icmp_ne (tgt := 36) d_Mo_oneLine_29 (by decide) (fun h29 => ?_) (fun h29 => ?_)
        · refine gj_iload_n d_Mo_oneLine_36 rfl ?_
          refine gj_kb (v := 68) d_Mo_oneLine_37 (by decide) ?_
          refine gj_icmp_eq (tgt := 48) d_Mo_oneLine_39 (by decide) (fun h39 => ?_) (fun h39 => ?_)
          · refine gj_kc (v := 2) d_Mo_oneLine_48 (by decide) ?_
            refine gj_goto (tgt := 53) d_Mo_oneLine_49 (by decide) ?_
            refine gj_top (y := nI (pt_nbN (pt_at tx sg p))) (by show (2 : Int32) = _; rw [← pt_nb_eq]; unfold pt_nb; rw [if_neg h19, if_neg h29, if_pos (by first | exact Or.inl h39 | exact Or.inr h45)]) ?_
            refine gj_less (lc' := [(0, .ref (70)), (1, .int ((pt_at tx sg p)))]) ⟨rfl, rfl, trivial⟩ ?_
            exact hJ
          · refine gj_iload_n d_Mo_oneLine_42 rfl ?_
            refine gj_kb (v := 77) d_Mo_oneLine_43 (by decide) ?_
            refine gj_icmp_ne (tgt := 52) d_Mo_oneLine_45 (by decide) (fun h45 => ?_) (fun h45 => ?_)
            · refine gj_kc (v := 0) d_Mo_oneLine_52 (by decide) ?_
              refine gj_top (y := nI (pt_nbN (pt_at tx sg p))) (by show (0 : Int32) = _; rw [← pt_nb_eq]; unfold pt_nb; rw [if_neg h19, if_neg h29, if_neg (fun z => z.elim h39 h45)]) ?_
              refine gj_less (lc' := [(0, .ref (70)), (1, .int ((pt_at tx sg p)))]) ⟨rfl, rfl, trivial⟩ ?_
              exact hJ
            · refine gj_kc (v := 2) d_Mo_oneLine_48 (by decide) ?_
              refine gj_goto (tgt := 53) d_Mo_oneLine_49 (by decide) ?_
              refine gj_top (y := nI (pt_nbN (pt_at tx sg p))) (by show (2 : Int32) = _; rw [← pt_nb_eq]; unfold pt_nb; rw [if_neg h19, if_neg h29, if_pos (by first | exact Or.inl h39 | exact Or.inr h45)]) ?_
              refine gj_less (lc' := [(0, .ref (70)), (1, .int ((pt_at tx sg p)))]) ⟨rfl, rfl, trivial⟩ ?_
              exact hJ
        · refine gj_kc (v := 3) d_Mo_oneLine_32 (by decide) ?_
          refine gj_goto (tgt := 53) d_Mo_oneLine_33 (by decide) ?_
          refine gj_top (y := nI (pt_nbN (pt_at tx sg p))) (by show (3 : Int32) = _; rw [← pt_nb_eq]; unfold pt_nb; rw [if_neg h19, if_pos h29]) ?_
          refine gj_less (lc' := [(0, .ref (70)), (1, .int ((pt_at tx sg p)))]) ⟨rfl, rfl, trivial⟩ ?_
          exact hJ
      · refine gj_kc (v := 4) d_Mo_oneLine_22 (by decide) ?_
        refine gj_goto (tgt := 53) d_Mo_oneLine_23 (by decide) ?_
        refine gj_top (y := nI (pt_nbN (pt_at tx sg p))) (by show (4 : Int32) = _; rw [← pt_nb_eq]; unfold pt_nb; rw [if_pos h19]) ?_
        refine gj_less (lc' := [(0, .ref (70)), (1, .int ((pt_at tx sg p)))]) ⟨rfl, rfl, trivial⟩ ?_
        exact hJ
    refine gj_istore_n d_Mo_oneLine_53 (by decide) ?_
    refine gj_iload_n d_Mo_oneLine_54 rfl ?_
    refine gj_if_ne (tgt := 60) d_Mo_oneLine_55 (by decide) (fun h55 => ?_) (fun h55 => ?_)
    · have m55 : ¬ (pt_nbN (pt_at tx sg p) = 0) := fun q => h55 ((nI_eq (a := pt_nbN (pt_at tx sg p)) (b := 0) (by omega) (by omega)).mpr q)
      refine gj_aload_n d_Mo_oneLine_60 rfl ?_
      refine gj_dup d_Mo_oneLine_61 rfl ?_
      refine gj_get d_Mo_oneLine_62 gf_Mo_32 m70 rfl ?_
      refine gj_kc (v := 1) d_Mo_oneLine_65 (by decide) ?_
      refine gj_iadd d_Mo_oneLine_66 ?_
      refine gj_top (y := nI (p + 1)) (nI_add (p) (1)) ?_
      refine gj_put d_Mo_oneLine_67 gp_Mo_32 m70 (Nat.le_of_ble_eq_true rfl) (fun _ => rfl) (fun _ => rfl) ?_
      obtain ⟨C1, eC1⟩ : ∃ Z0, Z0 = va_up C (70) (.inr (5, [.int (tc), .ref (71), .int (nI sg), .int (nI li), .ref (72), .int (nI nl), .ref (73), .int (nI (p + 1)), .int (nI ns), .ref (74), .ref (75), .ref (76), .ref (77), .ref (78), .ref (79), .ref (80), .ref (81), .ref (82), .ref (83), .ref (84), .int (nI dy), .ref (85), .ref (86), .ref (87), .ref (88), .ref (89), .ref (90)])) := ⟨_, rfl⟩
      refine gj_mem eC1 ?_
      have f2 : C1 (70) = .inr (5, [.int (tc), .ref (71), .int (nI sg), .int (nI li), .ref (72), .int (nI nl), .ref (73), .int (nI (p + 1)), .int (nI ns), .ref (74), .ref (75), .ref (76), .ref (77), .ref (78), .ref (79), .ref (80), .ref (81), .ref (82), .ref (83), .ref (84), .int (nI dy), .ref (85), .ref (86), .ref (87), .ref (88), .ref (89), .ref (90)]) := by rw [eC1]; exact va_up_self _ _ _
      have f3 : C1 (71) = .inl (0, 600, .inl tx) := by rw [eC1, va_up_ne _ _ (by omega)]; exact m71
      have f4 : C1 (73) = .inl (0, 300, .inl nr) := by rw [eC1, va_up_ne _ _ (by omega)]; exact m73
      refine gj_kc (v := 5) d_Mo_oneLine_70 (by decide) ?_
      refine gj_aload_n d_Mo_oneLine_71 rfl ?_
      refine gj_get d_Mo_oneLine_72 gf_Mo_26 f2 rfl ?_
      refine gj_imul d_Mo_oneLine_75 ?_
      refine gj_top (y := nI (5 * nl)) (nI_mul (5) (nl)) ?_
      refine gj_istore_n d_Mo_oneLine_76 (by decide) ?_
      refine gj_kc (v := 1) d_Mo_oneLine_77 (by decide) ?_
      refine gj_istore d_Mo_oneLine_78 (by decide) ?_
      refine gj_less (lc' := [(0, .ref (70)), (1, .int ((pt_at tx sg p))), (2, .int (nI (pt_nbN (pt_at tx sg p)))), (3, .int (nI (5 * nl))), (4, .int (nI 1))]) ⟨rfl, rfl, rfl, rfl, rfl, trivial⟩ ?_
      have zf : ∀ y, y ≠ 70 → y ≠ 73 → C1 y = C y := fun y b1 b2 => by rw [eC1, va_up_ne _ _ b1]
      refine c_Mo_oneLine_loop hsg hnl2 hw4 (pt_nbN (pt_at tx sg p)) 1 (p + 1) nr C1 (by omega) (by omega) (by omega) f2 f3 f4 (fun C2 p2 g2 a0 a1 a2 a3 a4 => ?_) (fun C2 p2 g2 a0 a2 a3 a4 => ?_)
      · have b71 : C2 71 = .inl (0, 600, .inl tx) := (a4 _ (by decide) (by decide)).trans f3
        have zg : ∀ (C3 : Nat → va_E), (∀ y, y ≠ 70 → y ≠ 73 → C3 y = C2 y) → ∀ y, y ≠ 70 → y ≠ 73 → C3 y = C y := fun C3 b y c1 c2 => (b y c1 c2).trans ((a4 y c1 c2).trans (zf y c1 c2))
        refine c_Mo_oneLine_tail a2 b71 a3 hsg a1 hnl2 (fun hc C3 p3 g3 b0 b1 b2 => ⟨rfl, zg C3 b2, Or.inr ⟨fun q => hc ?_, rfl, p3, g3, b0, b1⟩⟩) (fun hc C3 b0 b1 b2 => ⟨rfl, zg C3 b2, Or.inl ⟨⟨hnl2, m55, ?_⟩, rfl, ?_, ?_⟩⟩)
        · have := q.2.2; rw [a0] at this; exact this.2
        · rw [a0]; exact ⟨rfl, hc⟩
        · rw [a0]; exact b0
        · rw [a0]; exact b1
      · exact ⟨rfl, fun y c1 c2 => (a4 y c1 c2).trans (zf y c1 c2), Or.inr ⟨fun q => (by have := q.2.2.1; rw [a0] at this; cases this), rfl, p2, g2, a2, a3⟩⟩
    · have m55 : pt_nbN (pt_at tx sg p) = 0 := (nI_eq (a := pt_nbN (pt_at tx sg p)) (b := 0) (by omega) (by omega)).mp h55
      refine gj_kc (v := 0) d_Mo_oneLine_58 (by decide) ?_
      refine gj_zret rfl (by first | exact Or.inl rfl | exact Or.inr rfl) (Nat.zero_le _) (Nat.zero_le _) d_Mo_oneLine_59 ?_
      exact ⟨rfl, fun _ _ _ => rfl, Or.inr ⟨fun q => q.2.1 m55, rfl, p, nr, m70, m73⟩⟩
  · have m6 : nl = 60 := (nI_eq (a := nl) (b := 60) (by omega) (by omega)).mp h6
    refine gj_kc (v := 0) d_Mo_oneLine_9 (by decide) ?_
    refine gj_zret rfl (by first | exact Or.inl rfl | exact Or.inr rfl) (Nat.zero_le _) (Nat.zero_le _) d_Mo_oneLine_10 ?_
    exact ⟨rfl, fun _ _ _ => rfl, Or.inr ⟨fun q => by have := q.1; omega, rfl, p, nr, m70, m73⟩⟩
