/-! the pure side: a line is taken by both or by none -/
theorem rd_nb {c : Int32} (h : ¬ pt_nbN c = 0) : (c = 82 ∧ pt_nbN c = 4) ∨ (c = 68 ∧ pt_nbN c = 2) ∨ (c = 77 ∧ pt_nbN c = 2) ∨ (c = 70 ∧ pt_nbN c = 3) := by
  unfold pt_nbN at *
  by_cases c1 : c = 82
  · exact Or.inl ⟨c1, if_pos c1⟩
  · rw [if_neg c1] at h ⊢
    by_cases c2 : c = 70
    · exact Or.inr (Or.inr (Or.inr ⟨c2, if_pos c2⟩))
    · rw [if_neg c2] at h ⊢
      by_cases c3 : c = 68 ∨ c = 77
      · rw [if_pos c3]
        rcases c3 with c3 | c3
        · exact Or.inr (Or.inl ⟨c3, rfl⟩)
        · exact Or.inr (Or.inr (Or.inl ⟨c3, rfl⟩))
      · rw [if_neg c3] at h; exact absurd rfl h
theorem rd_fdn {lr : Nat → Int32} {o B : Nat} {d : Option Nat} (h : ∀ k, d = some k → ∃ v : Nat, v ≤ B ∧ lr (5 * k + o) = nI v) (hB : B ≤ 1000000) : rt_v lr o d = -1 ↔ d = none := by
  cases d with
  | none => exact ⟨fun _ => rfl, fun _ => rfl⟩
  | some k =>
    obtain ⟨v, hv, ev⟩ := h k rfl
    constructor
    · intro e
      exact absurd (ev.symm.trans e) (nI_m1 (by omega))
    · intro e; exact nomatch e
/-- with the numbers of a line: the tables' rule and the other one -/
theorem rd_rule {L : Int32} {nl : Nat} {R nr : Nat → Int32} {T0 : pr_T} {u : Nat → Nat} {b c e : Int32} (hn : ¬ pt_nbN L = 0) (h0 : rt_0 T0) (ok : rt_ok nr nl T0) (hu : ∀ k, k < pt_nbN L → u k < 2 ^ 31) (hR : ∀ k, k < pt_nbN L → R (5 * nl + 1 + k) = nI (u k)) (hb : 1 < pt_nbN L → b = nI (u 1)) (hc : 2 < pt_nbN L → c = nI (u 2)) (he : 3 < pt_nbN L → e = nI (u 3)) (hO : ∀ k, k < 5 * nl + 1 → R k = nr k) :
    (pr_ok L (u 0) b c e (rt_F nr nl T0) ↔ pm_ok R nl L) ∧ (pm_ok R nl L → rt_l (upd R (5 * nl) L) nl (rt_F nr nl T0) ∧ pr_nx L (u 0) b c e (rt_F nr nl T0) = pr_nx (upd R (5 * nl) L (5 * nl)) (upd R (5 * nl) L (5 * nl + 1)).toNatClampNeg (upd R (5 * nl) L (5 * nl + 2)) (upd R (5 * nl) L (5 * nl + 3)) (upd R (5 * nl) L (5 * nl + 4)) (rt_F nr nl T0)) := by
  have hfd := rt_fd h0 nl ok
  have hhv := rt_hv h0 nl ok
  have efd : ∀ L2 a, pl_fd R L2 a nl 0 = pl_fd nr L2 a nl 0 := fun L2 a => pl_fd_c nl 0 (fun j _ y => hO j (by omega))
  have ehv : ∀ a b2, pl_hv R a b2 nl 0 0 = pl_hv nr a b2 nl 0 0 := fun a b2 => pl_hv_c nl 0 0 (fun j _ y => hO j (by omega))
  unfold rt_l
  rw [upd_self, upd_ne R L (show 5 * nl + 1 ≠ 5 * nl by omega), upd_ne R L (show 5 * nl + 2 ≠ 5 * nl by omega), upd_ne R L (show 5 * nl + 3 ≠ 5 * nl by omega), upd_ne R L (show 5 * nl + 4 ≠ 5 * nl by omega)]
  unfold pr_ok pm_ok
  generalize rt_F nr nl T0 = T at hfd hhv ⊢
  rcases rd_nb hn with ⟨rfl, hN⟩ | ⟨rfl, hN⟩ | ⟨rfl, hN⟩ | ⟨rfl, hN⟩ <;> rw [hN] at hu hR hb hc he
  · have r0 := hR 0 (by omega)
    have r1 := hR 1 (by omega)
    have r2 := hR 2 (by omega)
    have r3 := hR 3 (by omega)
    have v0 := hu 0 (by omega)
    have v1 := hu 1 (by omega)
    have v2 := hu 2 (by omega)
    have v3 := hu 3 (by omega)
    have eb := hb (by omega)
    have ec := hc (by omega)
    have ee := he (by omega)
    rw [show 5 * nl + 1 + 0 = 5 * nl + 1 by omega] at r0
    rw [show 5 * nl + 1 + 1 = 5 * nl + 2 by omega] at r1
    rw [show 5 * nl + 1 + 2 = 5 * nl + 3 by omega] at r2
    rw [show 5 * nl + 1 + 3 = 5 * nl + 4 by omega] at r3
    rw [r0, r1, r2, r3, eb, ec, ee, ehv, nI_clamp v0]
    have a0 : nI (u 0) ≤ 9 ↔ u 0 < 10 := (nI_leI (b := 9) v0 (by decide)).trans (by omega)
    have a1 : nI (u 1) ≤ 9 ↔ u 1 < 10 := (nI_leI (b := 9) v1 (by decide)).trans (by omega)
    have b1 : nI (u 1) < 10 ↔ u 1 < 10 := nI_ltI (b := 10) v1 (by decide)
    have c1 : 1 ≤ nI (u 2) ↔ 1 ≤ u 2 := nI_leI (a := 1) (by decide) v2
    have c2 : nI (u 2) ≤ 100000 ↔ u 2 ≤ 100000 := nI_leI (b := 100000) v2 (by decide)
    have c3 : nI (u 3) ≤ 1000000 ↔ u 3 ≤ 1000000 := nI_leI (b := 1000000) v3 (by decide)
    constructor
    · constructor
      · intro h
        rcases h with ⟨_, k1, k2, k3, k4, k5⟩ | ⟨k1, _⟩ | ⟨k1, _⟩ | ⟨k1, _⟩
        · have k2' := b1.mp k2
          have hh := hhv (u 0) (u 1) k1 k2'
          rw [hh.1] at k5
          refine ⟨a0.mpr k1, fun _ => ⟨a1.mpr k2', ?_, k3, k4, k5⟩, fun z => absurd rfl z⟩
          rw [c1]
          have := Int32.lt_of_le_of_lt hh.2 k5
          exact (nI_ltI (a := 0) (by decide) v2).mp this
        · exact absurd k1 (by decide)
        · exact absurd k1 (by decide)
        · exact absurd k1 (by decide)
      · intro h
        obtain ⟨k1, k2, -⟩ := h
        obtain ⟨j1, j2, j3, j4, j5⟩ := k2 rfl
        left
        have hh := hhv (u 0) (u 1) (a0.mp k1) (a1.mp j1)
        exact ⟨rfl, a0.mp k1, b1.mpr (a1.mp j1), j3, j4, by rw [hh.1]; exact j5⟩
    · intro h
      obtain ⟨k1, k2, -⟩ := h
      obtain ⟨j1, j2, j3, j4, j5⟩ := k2 rfl
      have hh := hhv (u 0) (u 1) (a0.mp k1) (a1.mp j1)
      exact ⟨Or.inl ⟨rfl, u 0, u 1, u 2, u 3, a0.mp k1, a1.mp j1, c2.mp j3, c3.mp j4, rfl, rfl, rfl, rfl, by rw [hh.1]; exact j5⟩, rfl⟩
  · have r0 := hR 0 (by omega)
    have r1 := hR 1 (by omega)
    have v0 := hu 0 (by omega)
    have v1 := hu 1 (by omega)
    have eb := hb (by omega)
    rw [show 5 * nl + 1 + 0 = 5 * nl + 1 by omega] at r0
    rw [show 5 * nl + 1 + 1 = 5 * nl + 2 by omega] at r1
    rw [r0, r1, eb, efd, nI_clamp v0]
    have a0 : nI (u 0) ≤ 9 ↔ u 0 < 10 := (nI_leI (b := 9) v0 (by decide)).trans (by omega)
    have c2 : nI (u 1) ≤ 100000 ↔ u 1 ≤ 100000 := nI_leI (b := 100000) v1 (by decide)
    have key : u 0 < 10 → (T.2.2.2.2.1 (u 0) = -1 ↔ pl_fd nr 68 (nI (u 0)) nl 0 = none) := fun k => by
      rw [(hfd (u 0) k).1.1]; exact rd_fdn (hfd (u 0) k).1.2 (by omega)
    constructor
    · constructor
      · intro h
        rcases h with ⟨k1, _⟩ | ⟨_, k1, k2, k3⟩ | ⟨k1, _⟩ | ⟨k1, _⟩
        · exact absurd k1 (by decide)
        · exact ⟨a0.mpr k1, fun z => absurd z (by decide), fun _ => ⟨(key k1).mp k2, fun z => absurd z.2 (Int32.not_lt.mpr k3), fun z => absurd z.1 (by decide), fun z => absurd z (by decide)⟩⟩
        · exact absurd k1 (by decide)
        · exact absurd k1 (by decide)
      · intro h
        obtain ⟨k1, -, k2⟩ := h
        obtain ⟨j1, j2, -⟩ := k2 (by decide)
        exact Or.inr (Or.inl ⟨rfl, a0.mp k1, (key (a0.mp k1)).mpr j1, Int32.not_lt.mp (fun z => j2 ⟨rfl, z⟩)⟩)
    · intro h
      obtain ⟨k1, -, k2⟩ := h
      obtain ⟨j1, j2, -⟩ := k2 (by decide)
      exact ⟨Or.inr (Or.inl ⟨rfl, u 0, u 1, a0.mp k1, c2.mp (Int32.not_lt.mp (fun z => j2 ⟨rfl, z⟩)), rfl, rfl, (key (a0.mp k1)).mpr j1⟩), rfl⟩
  · have r0 := hR 0 (by omega)
    have r1 := hR 1 (by omega)
    have v0 := hu 0 (by omega)
    have v1 := hu 1 (by omega)
    have eb := hb (by omega)
    rw [show 5 * nl + 1 + 0 = 5 * nl + 1 by omega] at r0
    rw [show 5 * nl + 1 + 1 = 5 * nl + 2 by omega] at r1
    rw [r0, r1, eb, efd, nI_clamp v0]
    have a0 : nI (u 0) ≤ 9 ↔ u 0 < 10 := (nI_leI (b := 9) v0 (by decide)).trans (by omega)
    have c2 : nI (u 1) ≤ 1000000 ↔ u 1 ≤ 1000000 := nI_leI (b := 1000000) v1 (by decide)
    have key : u 0 < 10 → (T.2.2.2.2.2.1 (u 0) = -1 ↔ pl_fd nr 77 (nI (u 0)) nl 0 = none) := fun k => by
      rw [(hfd (u 0) k).2.1.1]; exact rd_fdn (hfd (u 0) k).2.1.2 (by omega)
    constructor
    · constructor
      · intro h
        rcases h with ⟨k1, _⟩ | ⟨k1, _⟩ | ⟨_, k1, k2, k3⟩ | ⟨k1, _⟩
        · exact absurd k1 (by decide)
        · exact absurd k1 (by decide)
        · exact ⟨a0.mpr k1, fun z => absurd z (by decide), fun _ => ⟨(key k1).mp k2, fun z => absurd z.1 (by decide), fun z => absurd z.2 (Int32.not_lt.mpr k3), fun z => absurd z (by decide)⟩⟩
        · exact absurd k1 (by decide)
      · intro h
        obtain ⟨k1, -, k2⟩ := h
        obtain ⟨j1, -, j2, -⟩ := k2 (by decide)
        exact Or.inr (Or.inr (Or.inl ⟨rfl, a0.mp k1, (key (a0.mp k1)).mpr j1, Int32.not_lt.mp (fun z => j2 ⟨rfl, z⟩)⟩))
    · intro h
      obtain ⟨k1, -, k2⟩ := h
      obtain ⟨j1, -, j2, -⟩ := k2 (by decide)
      exact ⟨Or.inr (Or.inr (Or.inl ⟨rfl, u 0, u 1, a0.mp k1, c2.mp (Int32.not_lt.mp (fun z => j2 ⟨rfl, z⟩)), rfl, rfl, (key (a0.mp k1)).mpr j1⟩)), rfl⟩
  · have r0 := hR 0 (by omega)
    have r1 := hR 1 (by omega)
    have r2 := hR 2 (by omega)
    have v0 := hu 0 (by omega)
    have v1 := hu 1 (by omega)
    have v2 := hu 2 (by omega)
    have eb := hb (by omega)
    have ec := hc (by omega)
    rw [show 5 * nl + 1 + 0 = 5 * nl + 1 by omega] at r0
    rw [show 5 * nl + 1 + 1 = 5 * nl + 2 by omega] at r1
    rw [show 5 * nl + 1 + 2 = 5 * nl + 3 by omega] at r2
    rw [r0, r1, r2, eb, ec, efd, nI_clamp v0]
    have a0 : nI (u 0) ≤ 9 ↔ u 0 < 10 := (nI_leI (b := 9) v0 (by decide)).trans (by omega)
    have c1 : 1 ≤ nI (u 2) ↔ 1 ≤ u 2 := nI_leI (a := 1) (by decide) v2
    have c2 : nI (u 2) ≤ 1000 ↔ u 2 ≤ 1000 := nI_leI (b := 1000) v2 (by decide)
    have c3 : nI (u 1) ≤ nI (u 2) ↔ u 1 ≤ u 2 := nI_leI v1 v2
    have key : u 0 < 10 → ((T.2.2.2.2.2.2.1 (u 0) = -1 ↔ pl_fd nr 70 (nI (u 0)) nl 0 = none) ∧ (T.2.2.2.2.2.2.2.1 (u 0) = -1 ↔ pl_fd nr 70 (nI (u 0)) nl 0 = none)) := fun k => by
      have q := (hfd (u 0) k).2.2
      rw [q.1, q.2.1]
      constructor
      · exact rd_fdn (B := 1000) (fun k hk => by obtain ⟨v, w, x1, x2, x3, x4, x5⟩ := q.2.2 k hk; exact ⟨v, by omega, x4⟩) (by omega)
      · exact rd_fdn (B := 1000) (fun k hk => by obtain ⟨v, w, x1, x2, x3, x4, x5⟩ := q.2.2 k hk; exact ⟨w, by omega, x5⟩) (by omega)
    constructor
    · constructor
      · intro h
        rcases h with ⟨k1, _⟩ | ⟨k1, _⟩ | ⟨k1, _⟩ | ⟨_, k1, k2, k3, k4, k5, k6⟩
        · exact absurd k1 (by decide)
        · exact absurd k1 (by decide)
        · exact absurd k1 (by decide)
        · exact ⟨a0.mpr k1, fun z => absurd z (by decide), fun _ => ⟨(key k1).1.mp k5, fun z => absurd z.1 (by decide), fun z => absurd z.1 (by decide), fun _ => ⟨k2, k4, k6⟩⟩⟩
      · intro h
        obtain ⟨k1, -, k2⟩ := h
        obtain ⟨j1, -, -, j2⟩ := k2 (by decide)
        obtain ⟨j3, j4, j5⟩ := j2 rfl
        exact Or.inr (Or.inr (Or.inr ⟨rfl, a0.mp k1, j3, (key (a0.mp k1)).2.mpr j1, j4, (key (a0.mp k1)).1.mpr j1, j5⟩))
    · intro h
      obtain ⟨k1, -, k2⟩ := h
      obtain ⟨j1, -, -, j2⟩ := k2 (by decide)
      obtain ⟨j3, j4, j5⟩ := j2 rfl
      exact ⟨Or.inr (Or.inr (Or.inr ⟨rfl, u 0, u 1, u 2, a0.mp k1, c3.mp j5, c1.mp j3, c2.mp j4, rfl, rfl, rfl, (key (a0.mp k1)).1.mpr j1, (key (a0.mp k1)).2.mpr j1⟩)), rfl⟩
