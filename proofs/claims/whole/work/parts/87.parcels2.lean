/-! the pure side: parcels, the three loops -/
section
variable {lw hg cs : Nat → Int32} {W H E : Nat → Nat} {cnt G : Nat}
theorem pq_t {t : Int32} {B : Nat → Prop} (h : ps_min t B) (k : Nat) : (t < 0 ∨ nI k < t) ↔ (t = -1 ∨ nI k < t) := by
  rcases h with ⟨h1, _⟩ | ⟨n, h1, h2, _⟩
  · exact ⟨fun _ => Or.inl h1, fun _ => Or.inl (by rw [h1]; decide)⟩
  · rw [h2]
    exact ⟨fun z => by rcases z with z | z; exact absurd z (nI_pos (by omega)); exact Or.inr z, fun z => by rcases z with z | z; exact absurd z (nI_m1 (by omega)); exact Or.inr z⟩
theorem pq_1 (hs : ∀ i, i < cnt → W i ≤ 100001 ∧ H i ≤ 100000 ∧ E i ≤ 1000000 ∧ lw i = nI (W i) ∧ hg i = nI (H i) ∧ cs i = nI (E i)) (hG : G ≤ 100000) {a b : Nat} (ha : a < cnt) (hb : b < cnt) :
    ∀ (m c : Nat) (t : Int32) (B : Nat → Prop), c + m = cnt → ps_min t B → ps_min (pq_c lw hg cs (nI G) a b m c t) (fun v => B v ∨ ∃ j, c ≤ j ∧ j < cnt ∧ W a + W b + W j ≤ G ∧ G ≤ H a + H b + H j ∧ v = E a + E b + E j) := by
  intro m
  induction m with
  | zero =>
    intro c t B hm h
    refine ps_min_c h (fun v => ⟨Or.inl, fun z => ?_⟩)
    rcases z with z | ⟨j, z1, z2, _⟩
    · exact z
    · omega
  | succ m ih =>
    intro c t B hm h
    obtain ⟨a1, a2, a3, a4, a5, a6⟩ := hs a ha
    obtain ⟨b1, b2, b3, b4, b5, b6⟩ := hs b hb
    obtain ⟨c1, c2, c3, c4, c5, c6⟩ := hs c (by omega)
    rw [pq_c]
    have x1 : (lw a + lw b + lw c ≤ nI G) ↔ W a + W b + W c ≤ G := by rw [a4, b4, c4, nI_add, nI_add]; exact nI_leI (by omega) (by omega)
    have x2 : (nI G ≤ hg a + hg b + hg c) ↔ G ≤ H a + H b + H c := by rw [a5, b5, c5, nI_add, nI_add]; exact nI_leI (by omega) (by omega)
    have x3 : cs a + cs b + cs c = nI (E a + E b + E c) := by rw [a6, b6, c6, nI_add, nI_add]
    have fin : ∀ (t2 : Int32) (B2 : Nat → Prop), ps_min t2 B2 → (∀ v, B2 v ↔ (B v ∨ (W a + W b + W c ≤ G ∧ G ≤ H a + H b + H c ∧ v = E a + E b + E c))) → ps_min (pq_c lw hg cs (nI G) a b m (c + 1) t2) (fun v => B v ∨ ∃ j, c ≤ j ∧ j < cnt ∧ W a + W b + W j ≤ G ∧ G ≤ H a + H b + H j ∧ v = E a + E b + E j) := by
      intro t2 B2 k1 k2
      refine ps_min_c (ih (c + 1) t2 B2 (by omega) k1) (fun v => ?_)
      rw [k2]
      constructor
      · rintro ((z | z) | ⟨j, z1, z2, z3⟩)
        · exact Or.inl z
        · exact Or.inr ⟨c, Nat.le_refl _, by omega, z⟩
        · exact Or.inr ⟨j, by omega, z2, z3⟩
      · rintro (z | ⟨j, z1, z2, z3⟩)
        · exact Or.inl (Or.inl z)
        · by_cases q : j = c
          · subst q; exact Or.inl (Or.inr z3)
          · exact Or.inr ⟨j, by omega, z2, z3⟩
    rw [x3]
    by_cases y : W a + W b + W c ≤ G ∧ G ≤ H a + H b + H c
    · have e : (if (lw a + lw b + lw c ≤ nI G ∧ nI G ≤ hg a + hg b + hg c) ∧ (t < 0 ∨ nI (E a + E b + E c) < t) then nI (E a + E b + E c) else t) = (if t = -1 ∨ nI (E a + E b + E c) < t then nI (E a + E b + E c) else t) := by
        by_cases z : t = -1 ∨ nI (E a + E b + E c) < t
        · rw [if_pos z, if_pos ⟨⟨x1.mpr y.1, x2.mpr y.2⟩, (pq_t h _).mpr z⟩]
        · rw [if_neg z, if_neg (fun w => z ((pq_t h _).mp w.2))]
      rw [e]
      exact fin _ _ (ps_add h (by omega)) (fun v => ⟨fun z => by rcases z with z | z; exact Or.inl z; exact Or.inr ⟨y.1, y.2, z⟩, fun z => by rcases z with z | z; exact Or.inl z; exact Or.inr z.2.2⟩)
    · rw [if_neg (fun w => y ⟨x1.mp w.1.1, x2.mp w.1.2⟩)]
      exact fin t B h (fun v => ⟨Or.inl, fun z => by rcases z with z | z; exact z; exact absurd ⟨z.1, z.2.1⟩ y⟩)
theorem pq_2 (hs : ∀ i, i < cnt → W i ≤ 100001 ∧ H i ≤ 100000 ∧ E i ≤ 1000000 ∧ lw i = nI (W i) ∧ hg i = nI (H i) ∧ cs i = nI (E i)) (hG : G ≤ 100000) {a : Nat} (ha : a < cnt) :
    ∀ (m b : Nat) (t : Int32) (B : Nat → Prop), b + m = cnt → ps_min t B → ps_min (pq_b lw hg cs (nI G) cnt a m b t) (fun v => B v ∨ ∃ i j, b ≤ i ∧ i < cnt ∧ j < cnt ∧ W a + W i + W j ≤ G ∧ G ≤ H a + H i + H j ∧ v = E a + E i + E j) := by
  intro m
  induction m with
  | zero =>
    intro b t B hm h
    refine ps_min_c h (fun v => ⟨Or.inl, fun z => ?_⟩)
    rcases z with z | ⟨i, j, z1, z2, _⟩
    · exact z
    · omega
  | succ m ih =>
    intro b t B hm h
    rw [pq_b]
    have q := pq_1 hs hG ha (show b < cnt by omega) cnt 0 t B (by omega) h
    refine ps_min_c (ih (b + 1) _ _ (by omega) q) (fun v => ?_)
    constructor
    · rintro ((z | ⟨j, z1, z2, z3⟩) | ⟨i, j, z1, z2, z3, z4⟩)
      · exact Or.inl z
      · exact Or.inr ⟨b, j, Nat.le_refl _, by omega, z2, z3⟩
      · exact Or.inr ⟨i, j, by omega, z2, z3, z4⟩
    · rintro (z | ⟨i, j, z1, z2, z3, z4⟩)
      · exact Or.inl (Or.inl z)
      · by_cases q : i = b
        · subst q; exact Or.inl (Or.inr ⟨j, Nat.zero_le _, z3, z4⟩)
        · exact Or.inr ⟨i, j, by omega, z2, z3, z4⟩
theorem pq_3 (hs : ∀ i, i < cnt → W i ≤ 100001 ∧ H i ≤ 100000 ∧ E i ≤ 1000000 ∧ lw i = nI (W i) ∧ hg i = nI (H i) ∧ cs i = nI (E i)) (hG : G ≤ 100000) :
    ∀ (m a : Nat) (t : Int32) (B : Nat → Prop), a + m = cnt → ps_min t B → ps_min (pq_a lw hg cs (nI G) cnt m a t) (fun v => B v ∨ ∃ h i j, a ≤ h ∧ h < cnt ∧ i < cnt ∧ j < cnt ∧ W h + W i + W j ≤ G ∧ G ≤ H h + H i + H j ∧ v = E h + E i + E j) := by
  intro m
  induction m with
  | zero =>
    intro b t B hm h
    refine ps_min_c h (fun v => ⟨Or.inl, fun z => ?_⟩)
    rcases z with z | ⟨y, i, j, z1, z2, _⟩
    · exact z
    · omega
  | succ m ih =>
    intro b t B hm h
    rw [pq_a]
    have q := pq_2 hs hG (show b < cnt by omega) cnt 0 t B (by omega) h
    refine ps_min_c (ih (b + 1) _ _ (by omega) q) (fun v => ?_)
    constructor
    · rintro ((z | ⟨i, j, z1, z2, z3⟩) | ⟨y, i, j, z1, z2, z3, z4⟩)
      · exact Or.inl z
      · exact Or.inr ⟨b, i, j, Nat.le_refl _, by omega, z2, z3⟩
      · exact Or.inr ⟨y, i, j, by omega, z2, z3, z4⟩
    · rintro (z | ⟨y, i, j, z1, z2, z3, z4⟩)
      · exact Or.inl (Or.inl z)
      · by_cases q : y = b
        · subst q; exact Or.inl (Or.inr ⟨i, j, Nat.zero_le _, z3, z4⟩)
        · exact Or.inr ⟨y, i, j, by omega, z2, z3, z4⟩
end
section
variable {A U E : Nat → Nat} {ok : Nat → Prop} {sp G : Nat}
theorem ps_1 {i : Nat} (h : i < sp) (k : ok i) (h1 : A i + 1 ≤ G) (h2 : G ≤ U i) : ps_S A U E ok sp 3 0 G G (E i) :=
  Or.inr ⟨i, 0, by omega, h, k, Or.inl ⟨by omega, by omega, rfl⟩, by omega⟩
theorem ps_2 {i j : Nat} (hij : i ≤ j) (h : i < sp) (k : ok i) (h' : j < sp) (k' : ok j) (h1 : A i + 1 + (A j + 1) ≤ G) (h2 : G ≤ U i + U j) : ps_S A U E ok sp 3 0 G G (E i + E j) :=
  Or.inr ⟨i, E j, by omega, h, k, Or.inr ⟨j, 0, hij, h', k', Or.inl ⟨by omega, by omega, rfl⟩, by omega⟩, by omega⟩
theorem ps_3 {i j m : Nat} (hij : i ≤ j) (hjm : j ≤ m) (h : i < sp) (k : ok i) (h' : j < sp) (k' : ok j) (h'' : m < sp) (k'' : ok m) (h1 : A i + 1 + (A j + 1) + (A m + 1) ≤ G) (h2 : G ≤ U i + U j + U m) : ps_S A U E ok sp 3 0 G G (E i + E j + E m) :=
  Or.inr ⟨i, E j + E m, by omega, h, k, Or.inr ⟨j, E m, hij, h', k', Or.inr ⟨m, 0, hjm, h'', k'', ⟨by omega, by omega, rfl⟩, by omega⟩, by omega⟩, by omega⟩
theorem ps_2s {i j : Nat} {v : Nat} (h : i < sp) (k : ok i) (h' : j < sp) (k' : ok j) (h1 : A i + 1 + (A j + 1) ≤ G) (h2 : G ≤ U i + U j) (e : v = E i + E j) : ps_S A U E ok sp 3 0 G G v := by
  rcases Nat.le_total i j with q | q
  · rw [e]; exact ps_2 q h k h' k' h1 h2
  · rw [e, Nat.add_comm]; exact ps_2 q h' k' h k (by omega) (by omega)
theorem ps_3s {i j m : Nat} {v : Nat} (h : i < sp) (k : ok i) (h' : j < sp) (k' : ok j) (h'' : m < sp) (k'' : ok m) (h1 : A i + 1 + (A j + 1) + (A m + 1) ≤ G) (h2 : G ≤ U i + U j + U m) (e : v = E i + E j + E m) : ps_S A U E ok sp 3 0 G G v := by
  rcases Nat.le_total i j with q | q <;> rcases Nat.le_total j m with r | r <;> rcases Nat.le_total i m with s | s
  · rw [e]; exact ps_3 q r h k h' k' h'' k'' h1 h2
  · rw [e]; exact ps_3 q r h k h' k' h'' k'' h1 h2
  · rw [show v = E i + E m + E j by omega]; exact ps_3 s r h k h'' k'' h' k' (by omega) (by omega)
  · rw [show v = E m + E i + E j by omega]; exact ps_3 s q h'' k'' h k h' k' (by omega) (by omega)
  · rw [show v = E j + E i + E m by omega]; exact ps_3 q s h' k' h k h'' k'' (by omega) (by omega)
  · rw [show v = E j + E m + E i by omega]; exact ps_3 r s h' k' h'' k'' h k (by omega) (by omega)
  · rw [show v = E m + E j + E i by omega]; exact ps_3 r q h'' k'' h' k' h k (by omega) (by omega)
  · rw [show v = E m + E j + E i by omega]; exact ps_3 r q h'' k'' h' k' h k (by omega) (by omega)
/-- the two sets of costs are one -/
theorem ps_eq {W H D : Nat → Nat} {cnt : Nat} (hG : 1 ≤ G) (hc : 1 ≤ cnt) (z1 : W 0 = 0) (z2 : H 0 = 0) (z3 : D 0 = 0) (R1 : ∀ p, 1 ≤ p → p < cnt → ∃ i, i < sp ∧ ok i ∧ W p = A i + 1 ∧ H p = U i ∧ D p = E i) (R2 : ∀ i, i < sp → ok i → ∃ p, 1 ≤ p ∧ p < cnt ∧ W p = A i + 1 ∧ H p = U i ∧ D p = E i) (v : Nat) :
    ps_S A U E ok sp 3 0 G G v ↔ (False ∨ ∃ h i j, 1 ≤ h ∧ h < cnt ∧ i < cnt ∧ j < cnt ∧ W h + W i + W j ≤ G ∧ G ≤ H h + H i + H j ∧ v = D h + D i + D j) := by
  constructor
  · intro h
    right
    rcases h with h | ⟨i, c1, _, hi, ki, h, e1⟩
    · have := h.1; omega
    · obtain ⟨p, p1, p2, p3, p4, p5⟩ := R2 i hi ki
      rcases h with h | ⟨j, c2, _, hj, kj, h, e2⟩
      · exact ⟨p, 0, 0, p1, p2, hc, hc, by have := h.2.1; omega, by have := h.1; omega, by have := h.2.2; omega⟩
      · obtain ⟨q, q1, q2, q3, q4, q5⟩ := R2 j hj kj
        rcases h with h | ⟨m, c3, _, hm, km, h, e3⟩
        · exact ⟨p, q, 0, p1, p2, q2, hc, by have := h.2.1; omega, by have := h.1; omega, by have := h.2.2; omega⟩
        · obtain ⟨r, r1, r2, r3, r4, r5⟩ := R2 m hm km
          exact ⟨p, q, r, p1, p2, q2, r2, by have := h.2.1; omega, by have := h.1; omega, by have := h.2.2; omega⟩
  · rintro (h | ⟨p, q, r, p1, p2, q2, r2, k1, k2, k3⟩)
    · exact absurd h (fun h => h)
    · obtain ⟨i, i1, i2, i3, i4, i5⟩ := R1 p p1 p2
      by_cases q0 : q = 0
      · by_cases r0 : r = 0
        · rw [q0, r0] at k1 k2 k3
          rw [show v = E i by omega]
          exact ps_1 i1 i2 (by omega) (by omega)
        · obtain ⟨m, m1, m2, m3, m4, m5⟩ := R1 r (by omega) r2
          rw [q0] at k1 k2 k3
          exact ps_2s i1 i2 m1 m2 (by omega) (by omega) (by omega)
      · obtain ⟨j, j1, j2, j3, j4, j5⟩ := R1 q (by omega) q2
        by_cases r0 : r = 0
        · rw [r0] at k1 k2 k3
          exact ps_2s i1 i2 j1 j2 (by omega) (by omega) (by omega)
        · obtain ⟨m, m1, m2, m3, m4, m5⟩ := R1 r (by omega) r2
          exact ps_3s i1 i2 j1 j2 m1 m2 (by omega) (by omega) (by omega)
end
theorem pq_ld_s (lr : Nat → Int32) (a z : Int32) : ∀ (m k c : Nat) (b : Int32) (lw hg cs : Nat → Int32), pq_ld lr a z (m + 1) k c b lw hg cs = if lr (5 * (k + m)) = 82 ∧ lr (5 * (k + m) + 1) = a ∧ lr (5 * (k + m) + 2) = z then ((pq_ld lr a z m k c b lw hg cs).1 + 1, upd (pq_ld lr a z m k c b lw hg cs).2.1 (pq_ld lr a z m k c b lw hg cs).1 (pl_hv lr a z m k b + 1), upd (pq_ld lr a z m k c b lw hg cs).2.2.1 (pq_ld lr a z m k c b lw hg cs).1 (lr (5 * (k + m) + 3)), upd (pq_ld lr a z m k c b lw hg cs).2.2.2 (pq_ld lr a z m k c b lw hg cs).1 (lr (5 * (k + m) + 4))) else pq_ld lr a z m k c b lw hg cs := by
  intro m
  induction m with
  | zero =>
    intro k c b lw hg cs
    rw [pq_ld]
    rfl
  | succ m ih =>
    intro k c b lw hg cs
    rw [pq_ld]
    by_cases q : lr (5 * k) = 82 ∧ lr (5 * k + 1) = a ∧ lr (5 * k + 2) = z
    · have e1 : pq_ld lr a z (m + 1) k c b lw hg cs = pq_ld lr a z m (k + 1) (c + 1) (lr (5 * k + 3)) (upd lw c (b + 1)) (upd hg c (lr (5 * k + 3))) (upd cs c (lr (5 * k + 4))) := by rw [pq_ld, if_pos q]
      have e2 : pl_hv lr a z (m + 1) k b = pl_hv lr a z m (k + 1) (lr (5 * k + 3)) := by rw [pl_hv, if_pos q]
      rw [if_pos q, ih, e1, e2, show k + 1 + m = k + (m + 1) by omega]
    · have e1 : pq_ld lr a z (m + 1) k c b lw hg cs = pq_ld lr a z m (k + 1) c b lw hg cs := by rw [pq_ld, if_neg q]
      have e2 : pl_hv lr a z (m + 1) k b = pl_hv lr a z m (k + 1) b := by rw [pl_hv, if_neg q]
      rw [if_neg q, ih, e1, e2, show k + 1 + m = k + (m + 1) by omega]
theorem rt_ld {lr : Nat → Int32} {T0 : pr_T} (h0 : rt_0 T0) {a z : Nat} (ha : a < 10) (hz : z < 10) {lw hg cs : Nat → Int32} (w0 : lw 0 = 0) (w1 : hg 0 = 0) (w2 : cs 0 = 0) : ∀ li, rt_ok lr li T0 → ∀ Q, pq_ld lr (nI a) (nI z) li 0 1 0 lw hg cs = Q →
    1 ≤ Q.1 ∧ Q.2.1 0 = 0 ∧ Q.2.2.1 0 = 0 ∧ Q.2.2.2 0 = 0 ∧
    (∀ p, 1 ≤ p → p < Q.1 → ∃ i, i < (rt_F lr li T0).2.2.2.2.2.2.2.2 ∧ (rt_F lr li T0).1 i = nI a * 10 + nI z ∧ Q.2.1 p = (rt_F lr li T0).2.1 i + 1 ∧ Q.2.2.1 p = (rt_F lr li T0).2.2.1 i ∧ Q.2.2.2 p = (rt_F lr li T0).2.2.2.1 i) ∧
    (∀ i, i < (rt_F lr li T0).2.2.2.2.2.2.2.2 → (rt_F lr li T0).1 i = nI a * 10 + nI z → ∃ p, 1 ≤ p ∧ p < Q.1 ∧ Q.2.1 p = (rt_F lr li T0).2.1 i + 1 ∧ Q.2.2.1 p = (rt_F lr li T0).2.2.1 i ∧ Q.2.2.2 p = (rt_F lr li T0).2.2.2.1 i) := by
  intro li
  induction li with
  | zero =>
    intro _ Q hQ
    subst hQ
    refine ⟨Nat.le_refl 1, w0, w1, w2, fun p h1 h2 => ?_, fun i hi => ?_⟩
    · exact absurd (show p < 1 from h2) (by omega)
    · exact absurd hi (by show ¬ i < T0.2.2.2.2.2.2.2.2; rw [h0.1]; omega)
  | succ li ih =>
    intro ok Q hQ
    have hl := ok li (by omega)
    obtain ⟨i1, i2, i3, i4, i5, i6⟩ := ih (rt_ok_p ok) _ rfl
    have hhv := rt_hv h0 li (rt_ok_p ok) a z ha hz
    rw [pq_ld_s, Nat.zero_add] at hQ
    rw [rt_s]
    generalize rt_F lr li T0 = T at hl i5 i6 hhv ⊢
    generalize pq_ld lr (nI a) (nI z) li 0 1 0 lw hg cs = Q1 at i1 i2 i3 i4 i5 i6 hQ
    rcases hl with ⟨hL, a1, b1, c1, e1, g1, g2, g3, g4, q1, q2, q3, q4, q5⟩ | ⟨hL, a1, v1, g1, g2, q1, q2, q3⟩ | ⟨hL, a1, v1, g1, g2, q1, q2, q3⟩ | ⟨hL, a1, v1, w1, g1, g2, g3, g4, q1, q2, q3, q4, q5⟩
    · rw [hL, q1, q2, q3, q4] at hQ ⊢
      rw [pr_nx_82, nI_clamp (by omega)]
      dsimp only
      by_cases c : a1 = a ∧ b1 = z
      · rw [if_pos ⟨rfl, by rw [c.1], by rw [c.2]⟩] at hQ
        subst hQ
        rw [c.1, c.2] at *
        dsimp only
        refine ⟨by omega, ?_, ?_, ?_, ?_, ?_⟩
        · rw [upd_ne _ _ (by omega)]; exact i2
        · rw [upd_ne _ _ (by omega)]; exact i3
        · rw [upd_ne _ _ (by omega)]; exact i4
        · intro p p1 p2
          by_cases y : p = Q1.1
          · refine ⟨T.2.2.2.2.2.2.2.2, by omega, upd_self _ _ _, ?_, ?_, ?_⟩
            · rw [y, upd_self, upd_self, hhv.1]
            · rw [y, upd_self, upd_self]
            · rw [y, upd_self, upd_self]
          · obtain ⟨i, k1, k2, k3, k4, k5⟩ := i5 p p1 (by omega)
            refine ⟨i, by omega, ?_, ?_, ?_, ?_⟩
            · rw [upd_ne _ _ (by omega)]; exact k2
            · rw [upd_ne _ _ y, upd_ne _ _ (by omega)]; exact k3
            · rw [upd_ne _ _ y, upd_ne _ _ (by omega)]; exact k4
            · rw [upd_ne _ _ y, upd_ne _ _ (by omega)]; exact k5
        · intro i k1 k2
          by_cases y : i = T.2.2.2.2.2.2.2.2
          · refine ⟨Q1.1, i1, by omega, ?_, ?_, ?_⟩
            · rw [y, upd_self, upd_self, hhv.1]
            · rw [y, upd_self, upd_self]
            · rw [y, upd_self, upd_self]
          · rw [upd_ne _ _ y] at k2
            obtain ⟨p, p1, p2, k3, k4, k5⟩ := i6 i (by omega) k2
            refine ⟨p, p1, by omega, ?_, ?_, ?_⟩
            · rw [upd_ne _ _ y, upd_ne _ _ (by omega)]; exact k3
            · rw [upd_ne _ _ y, upd_ne _ _ (by omega)]; exact k4
            · rw [upd_ne _ _ y, upd_ne _ _ (by omega)]; exact k5
      · rw [if_neg (fun h => c ⟨(nI_eq (by omega) (by omega)).mp h.2.1, (nI_eq (by omega) (by omega)).mp h.2.2⟩)] at hQ
        subst hQ
        refine ⟨i1, i2, i3, i4, ?_, ?_⟩
        · intro p p1 p2
          obtain ⟨i, k1, k2, k3, k4, k5⟩ := i5 p p1 p2
          refine ⟨i, by omega, ?_, ?_, ?_, ?_⟩
          · rw [upd_ne _ _ (by omega)]; exact k2
          · rw [upd_ne _ _ (by omega)]; exact k3
          · rw [upd_ne _ _ (by omega)]; exact k4
          · rw [upd_ne _ _ (by omega)]; exact k5
        · intro i k1 k2
          by_cases y : i = T.2.2.2.2.2.2.2.2
          · rw [y, upd_self] at k2
            exact absurd ((nI_lane_eq g1 g2 ha hz).mp k2) c
          · rw [upd_ne _ _ y] at k2
            rw [upd_ne _ _ y, upd_ne _ _ y, upd_ne _ _ y]
            exact i6 i (by omega) k2
    · rw [hL, if_neg (fun h => absurd h.1 (by decide))] at hQ
      subst hQ
      rw [hL, pr_nx_68]; exact ⟨i1, i2, i3, i4, i5, i6⟩
    · rw [hL, if_neg (fun h => absurd h.1 (by decide))] at hQ
      subst hQ
      rw [hL, pr_nx_77]; exact ⟨i1, i2, i3, i4, i5, i6⟩
    · rw [hL, if_neg (fun h => absurd h.1 (by decide))] at hQ
      subst hQ
      rw [hL, pr_nx_70]; exact ⟨i1, i2, i3, i4, i5, i6⟩
/-- parcels: alike -/
theorem pq_eq {lr : Nat → Int32} {T0 : pr_T} (h0 : rt_0 T0) {a z G li : Nat} (ha : a < 10) (hz : z < 10) (hG : 1 ≤ G) (hG2 : G ≤ 100000) (ok : rt_ok lr li T0) {lw hg cs : Nat → Int32} (w0 : lw 0 = 0) (w1 : hg 0 = 0) (w2 : cs 0 = 0) :
    pr_lc (rt_F lr li T0).1 (rt_F lr li T0).2.1 (rt_F lr li T0).2.2.1 (rt_F lr li T0).2.2.2.1 (rt_F lr li T0).2.2.2.2.2.2.2.2 (nI a * 10 + nI z) 3 0 (nI G) (nI G) = pq_a (pq_ld lr (nI a) (nI z) li 0 1 0 lw hg cs).2.1 (pq_ld lr (nI a) (nI z) li 0 1 0 lw hg cs).2.2.1 (pq_ld lr (nI a) (nI z) li 0 1 0 lw hg cs).2.2.2 (nI G) (pq_ld lr (nI a) (nI z) li 0 1 0 lw hg cs).1 ((pq_ld lr (nI a) (nI z) li 0 1 0 lw hg cs).1 - 1) 1 (-1) := by
  obtain ⟨i1, i2, i3, i4, i5, i6⟩ := rt_ld h0 ha hz w0 w1 w2 li ok _ rfl
  have hst := rt_st h0 li ok
  generalize rt_F lr li T0 = T at i5 i6 hst ⊢
  generalize pq_ld lr (nI a) (nI z) li 0 1 0 lw hg cs = Q at i1 i2 i3 i4 i5 i6 ⊢
  -- the tables as naturals
  have hs : ∀ i, i < T.2.2.2.2.2.2.2.2 → (T.2.1 i).toNatClampNeg ≤ 100000 ∧ (T.2.2.1 i).toNatClampNeg ≤ 100000 ∧ (T.2.2.2.1 i).toNatClampNeg ≤ 1000000 ∧ T.2.1 i = nI (T.2.1 i).toNatClampNeg ∧ T.2.2.1 i = nI (T.2.2.1 i).toNatClampNeg ∧ T.2.2.2.1 i = nI (T.2.2.2.1 i).toNatClampNeg := by
    intro i hi
    obtain ⟨c, b, e, x1, x2, x3, x4, x5, x6⟩ := hst i hi
    rw [x4, x5, x6, nI_clamp (by omega), nI_clamp (by omega), nI_clamp (by omega)]
    exact ⟨by omega, x2, x3, rfl, rfl, rfl⟩
  have hq : ∀ p, p < Q.1 → (Q.2.1 p).toNatClampNeg ≤ 100001 ∧ (Q.2.2.1 p).toNatClampNeg ≤ 100000 ∧ (Q.2.2.2 p).toNatClampNeg ≤ 1000000 ∧ Q.2.1 p = nI (Q.2.1 p).toNatClampNeg ∧ Q.2.2.1 p = nI (Q.2.2.1 p).toNatClampNeg ∧ Q.2.2.2 p = nI (Q.2.2.2 p).toNatClampNeg := by
    intro p hp
    by_cases y : p = 0
    · rw [y, i2, i3, i4]; decide
    · obtain ⟨i, k1, k2, k3, k4, k5⟩ := i5 p (by omega) hp
      obtain ⟨s1, s2, s3, s4, s5, s6⟩ := hs i k1
      rw [k3, k4, k5, s4, nI_1, nI_clamp (by omega)]
      exact ⟨by omega, s2, s3, rfl, s5, s6⟩
  have r1 := ps_lc (la := T.1) (l := nI a * 10 + nI z) hs 3 0 (nI G) (nI G) G G (by omega) (by omega) (nI_toInt (by omega)) (nI_toInt (by omega)) (by omega) (by omega) (by omega) (by omega)
  have r2 := pq_3 hq hG2 (Q.1 - 1) 1 (-1) (fun _ => False) (by omega) (Or.inl ⟨rfl, fun _ h => h⟩)
  refine ps_uniq (ps_min_c r1 (fun v => ps_eq (W := fun p => (Q.2.1 p).toNatClampNeg) (H := fun p => (Q.2.2.1 p).toNatClampNeg) (D := fun p => (Q.2.2.2 p).toNatClampNeg) (cnt := Q.1) hG i1 (by rw [i2]; rfl) (by rw [i3]; rfl) (by rw [i4]; rfl) ?_ ?_ v)) r2
  · intro p p1 p2
    obtain ⟨i, k1, k2, k3, k4, k5⟩ := i5 p p1 p2
    obtain ⟨s1, s2, s3, s4, s5, s6⟩ := hs i k1
    refine ⟨i, k1, k2, ?_, by rw [k4], by rw [k5]⟩
    rw [k3]
    rw [s4, nI_1, nI_clamp (by omega), nI_clamp (by omega)]
  · intro i k1 k2
    obtain ⟨p, p1, p2, k3, k4, k5⟩ := i6 i k1 k2
    obtain ⟨s1, s2, s3, s4, s5, s6⟩ := hs i k1
    refine ⟨p, p1, p2, ?_, by rw [k4], by rw [k5]⟩
    rw [k3]
    rw [s4, nI_1, nI_clamp (by omega), nI_clamp (by omega)]
