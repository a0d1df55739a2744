/-! the pure side: weights, prices -/
theorem nI_by {x : Int32} {n : Nat} (h : x.toInt = (n : Int)) (hn : n < 2 ^ 31) : x = nI n := Int32.toInt_inj.mp (by rw [h, nI_toInt hn])
theorem up_toInt {a b : Int64} {A D : Nat} (ha : a.toInt = (A : Int)) (hb : b.toInt = (D : Int)) (hD : 1 ≤ D) (hA : A < 2 ^ 40) (hD2 : D < 2 ^ 40) : (pr_up a b).toInt = (((A + D - 1) / D : Nat) : Int) := by
  have e : (a + b - 1).toInt = ((A + D - 1 : Nat) : Int) := by
    rw [Int64.toInt_sub, Int64.toInt_add, ha, hb, show (1 : Int64).toInt = 1 by decide]
    rw [Int.bmod_eq_of_le (n := (A : Int) + D) (by omega) (by omega), Int.bmod_eq_of_le (by omega) (by omega)]
    omega
  have l := Nat.div_le_self (A + D - 1) D
  unfold pr_up
  rw [Int64.toInt_div, e, hb, Int.tdiv_eq_ediv_of_nonneg (by omega), ← Int.natCast_ediv]
  generalize (A + D - 1) / D = q at l
  exact Int.bmod_eq_of_le (by omega) (by omega)
theorem l64_nI {n : Nat} (h : n < 2 ^ 31) : (nI n).toInt64.toInt = (n : Int) := by rw [Int32.toInt_toInt64, nI_toInt h]
theorem l64_mul {a b : Nat} (ha : a < 2 ^ 31) (hb : b < 2 ^ 31) (h : a * b < 2 ^ 40) : ((nI a).toInt64 * (nI b).toInt64).toInt = ((a * b : Nat) : Int) := by
  rw [Int64.toInt_mul, l64_nI ha, l64_nI hb, ← Int.natCast_mul]
  generalize a * b = q at h
  exact Int.bmod_eq_of_le (by omega) (by omega)
theorem l32_by {x : Int64} {n : Nat} (h : x.toInt = (n : Int)) (hn : n < 2 ^ 31) : x.toInt32 = nI n := nI_by (by rw [Int64.toInt_toInt32, h]; exact Int.bmod_eq_of_le (by omega) (by omega)) hn
theorem nI_div {A D : Nat} (hA : A < 2 ^ 31) (hD : D < 2 ^ 31) : nI A / nI D = nI (A / D) := by
  have l := Nat.div_le_self A D
  refine nI_by ?_ (by omega)
  rw [Int32.toInt_div, nI_toInt hA, nI_toInt hD, Int.tdiv_eq_ediv_of_nonneg (by omega), ← Int.natCast_ediv]
  generalize A / D = q at l
  exact Int.bmod_eq_of_le (by omega) (by omega)
theorem pw_eq {lr : Nat → Int32} {o : Option Nat} {dv : Int32} {G V : Nat} (e : dv = rt_v lr 2 o) (h : ∀ k, o = some k → ∃ v : Nat, v ≤ 100000 ∧ lr (5 * k + 2) = nI v) (hG : G ≤ 100000) (hV : V ≤ 100000000) :
    (dv = 0 ∧ pm_tp lr (nI G) (nI V) o < 0) ∨ (¬ dv = 0 ∧ ¬ pm_tp lr (nI G) (nI V) o < 0 ∧ pr_w dv (nI G) (nI V) = pm_tp lr (nI G) (nI V) o) := by
  cases o with
  | none =>
    right
    rw [e]
    refine ⟨by show ¬ (-1 : Int32) = 0; decide, nI_pos (by omega), ?_⟩
    show (if (-1 : Int32) = -1 then _ else _) = nI G
    rw [if_pos rfl]
  | some k =>
    obtain ⟨D, hD, eD⟩ := h k rfl
    have ev : dv = nI D := e.trans eD
    unfold pm_tp pr_w
    dsimp only
    rw [ev, eD]
    by_cases c : D = 0
    · left
      subst c
      refine ⟨rfl, ?_⟩
      rw [if_pos (show nI 0 = 0 from rfl)]
      decide
    · right
      have n0 : ¬ nI D = 0 := nI_ne0 (by omega) (by omega)
      have hq : (V + D - 1) / D ≤ V + D - 1 := Nat.div_le_self _ _
      have e1 : (pr_up (nI V).toInt64 (nI D).toInt64).toInt32 = nI ((V + D - 1) / D) := l32_by (up_toInt (l64_nI (by omega)) (l64_nI (by omega)) (by omega) (by omega) (by omega)) (by omega)
      have e2 : (nI V + nI D - 1) / nI D = nI ((V + D - 1) / D) := by
        rw [nI_add, show V + D = (V + D - 1) + 1 by omega, nI_pred, nI_div (by omega) (by omega)]
        rfl
      rw [if_neg n0, e2, e1, if_neg (nI_m1 (by omega))]
      generalize (V + D - 1) / D = q at hq
      refine ⟨n0, ?_, ?_⟩
      · split
        · exact nI_pos (by omega)
        · exact nI_pos (by omega)
      · by_cases z : nI G < nI q
        · rw [if_pos z, if_neg (Int32.not_le.mpr z)]
        · rw [if_neg z, if_pos (Int32.not_lt.mp z)]
theorem up_le {c v w : Nat} (h : v ≤ w) (hw : 1 ≤ w) : (c * v + w - 1) / w ≤ c := by
  have := Nat.mul_le_mul_left c h
  refine Nat.le_of_lt_succ (Nat.div_lt_of_lt_mul ?_)
  rw [Nat.mul_succ, Nat.mul_comm w c]
  omega
theorem up_eq {c v w : Nat} (hc : c ≤ 4000000) (h : v ≤ w) (hw : 1 ≤ w) (h2 : w ≤ 1000) : (pr_up ((nI c).toInt64 * (nI v).toInt64) (nI w).toInt64).toInt = (((c * v + w - 1) / w : Nat) : Int) := by
  have : c * v ≤ 4000000 * 1000 := Nat.mul_le_mul hc (by omega)
  exact up_toInt (l64_mul (by omega) (by omega) (by omega)) (l64_nI (by omega)) hw (by omega) (by omega)
theorem pp_eq {lr : Nat → Int32} {o o2 : Option Nat} {fu fd mi : Int32} {c : Nat} (hc : c ≤ 1000000) (e1 : fu = rt_v lr 2 o) (e2 : fd = rt_v lr 3 o) (h : ∀ k, o = some k → ∃ v w : Nat, v ≤ w ∧ 1 ≤ w ∧ w ≤ 1000 ∧ lr (5 * k + 2) = nI v ∧ lr (5 * k + 3) = nI w) (e3 : mi = rt_v lr 2 o2) (h2 : ∀ k, o2 = some k → ∃ v : Nat, v ≤ 1000000 ∧ lr (5 * k + 2) = nI v) :
    ¬ fd = 0 ∧ (∀ k, o = some k → ¬ lr (5 * k + 3) = 0) ∧ ∃ P : Nat, P ≤ 2000000 ∧ pm_mi lr (pm_fu lr (nI c) o) o2 = nI P ∧ pr_ch (nI c) fu fd mi = (nI P).toInt64 := by
  have a : ¬ fd = 0 ∧ (∀ k, o = some k → ¬ lr (5 * k + 3) = 0) ∧ ∃ Q : Nat, Q ≤ 2000000 ∧ pm_fu lr (nI c) o = nI Q ∧ pr_am (nI c) fu fd = (nI Q).toInt64 := by
    cases o with
    | none =>
      rw [e2]
      refine ⟨by show ¬ (-1 : Int32) = 0; decide, fun k hk => (nomatch hk), c, by omega, rfl, ?_⟩
      unfold pr_am
      exact if_pos rfl
    | some k =>
      obtain ⟨v, w, x1, x2, x3, x4, x5⟩ := h k rfl
      have f1 : fu = nI v := e1.trans x4
      have f2 : fd = nI w := e2.trans x5
      have n0 : ¬ nI w = 0 := nI_ne0 (by omega) (by omega)
      rw [f1, f2]
      refine ⟨n0, fun k2 hk => by cases hk; rw [x5]; exact n0, c + (c * v + w - 1) / w, ?_, ?_, ?_⟩
      · have := up_le (c := c) x1 x2; omega
      · unfold pm_fu
        dsimp only
        rw [x4, x5, l32_by (up_eq (by omega) x1 x2 x3) (by have := up_le (c := c) x1 x2; omega), nI_add]
      · have l := up_le (c := c) x1 x2
        unfold pr_am
        rw [if_neg (nI_m1 (by omega))]
        refine Int64.toInt_inj.mp ?_
        rw [Int64.toInt_add, l64_nI (by omega), up_eq (by omega) x1 x2 x3, l64_nI (by omega)]
        generalize (c * v + w - 1) / w = q at l
        rw [Int.bmod_eq_of_le (by omega) (by omega)]
        omega
  obtain ⟨a1, a2, Q, hQ, q1, q2⟩ := a
  refine ⟨a1, a2, ?_⟩
  unfold pr_ch
  rw [q1, q2]
  cases o2 with
  | none =>
    refine ⟨Q, hQ, rfl, ?_⟩
    rw [e3]
    refine if_pos ?_
    rw [Int64.lt_iff_toInt_lt, l64_nI (by omega)]
    show (-1 : Int32).toInt64.toInt < _
    rw [Int32.toInt_toInt64, show (-1 : Int32).toInt = -1 by decide]
    omega
  | some k =>
    obtain ⟨v, x1, x2⟩ := h2 k rfl
    have f3 : mi = nI v := e3.trans x2
    unfold pm_mi
    dsimp only
    rw [x2, f3]
    by_cases z : v < Q
    · refine ⟨Q, hQ, ?_, ?_⟩
      · rw [if_pos ((nI_leI (by omega) (by omega)).mpr (by omega))]
      · rw [if_pos (by rw [Int64.lt_iff_toInt_lt, l64_nI (by omega), l64_nI (by omega)]; omega)]
    · by_cases y : v = Q
      · subst y
        refine ⟨v, hQ, ?_, ?_⟩
        · rw [if_pos ((nI_leI (by omega) (by omega)).mpr (by omega))]
        · rw [if_neg (by rw [Int64.lt_iff_toInt_lt, l64_nI (by omega)]; omega)]
      · refine ⟨v, by omega, ?_, ?_⟩
        · rw [if_neg (fun z2 => by have := (nI_leI (by omega) (by omega)).mp z2; omega)]
        · rw [if_neg (by rw [Int64.lt_iff_toInt_lt, l64_nI (by omega), l64_nI (by omega)]; omega)]
theorem px_eq {P a : Nat} {up dn mu md : Nat → Int32} {o : Option Nat} (h : ∀ p, o = some p → up p = mu (4 * a + p) ∧ dn p = md (4 * a + p)) : pr_px (nI P).toInt64 up dn o = pm_pt (nI P) mu md a o := by
  cases o with
  | none => exact Int32.toInt32_toInt64 _
  | some p =>
    obtain ⟨h1, h2⟩ := h p rfl
    unfold pr_px pm_pt
    dsimp only
    rw [h1, h2]
theorem px_nat {P : Nat} {up dn : Nat → Int32} {o : Option Nat} (hP : P ≤ 2000000) (h : ∀ p, o = some p → ∃ u d : Nat, u ≤ d ∧ 1 ≤ d ∧ d ≤ 1000 ∧ up p = nI u ∧ dn p = nI d) : ∃ Q, Q ≤ 2000000 ∧ pr_px (nI P).toInt64 up dn o = nI Q := by
  cases o with
  | none => exact ⟨P, hP, Int32.toInt32_toInt64 _⟩
  | some p =>
    obtain ⟨u, d, x1, x2, x3, x4, x5⟩ := h p rfl
    have l := up_le (c := P) x1 x2
    refine ⟨(P * u + d - 1) / d, by omega, ?_⟩
    unfold pr_px
    dsimp only
    rw [x4, x5]
    exact l32_by (up_eq (by omega) x1 x2 x3) (by omega)
theorem pf_la_c {f f2 : Nat → Int32} {v : Int32} : ∀ m i b, (∀ k, k < i + m → f k = f2 k) → (∀ j, b = some j → j < i) → pf_la f v m i b = pf_la f2 v m i b := by
  intro m
  induction m with
  | zero => intro i b _ _; rfl
  | succ m ih =>
    intro i b h hb
    rw [pf_la, pf_la]
    have e : (f i ≤ v ∧ pf_gt f i b) ↔ (f2 i ≤ v ∧ pf_gt f2 i b) := by
      rw [h i (by omega)]
      cases b with
      | none => exact Iff.rfl
      | some j =>
        have := hb j rfl
        show (_ ∧ f j < f i) ↔ (_ ∧ f2 j < f2 i)
        rw [h i (by omega), h j (by omega)]
    by_cases c : f i ≤ v ∧ pf_gt f i b
    · rw [if_pos c, if_pos (e.mp c)]
      exact ih _ _ (fun k hk => h k (by omega)) (fun j hj => by cases hj; omega)
    · rw [if_neg c, if_neg (fun x => c (e.mpr x))]
      exact ih _ _ (fun k hk => h k (by omega)) (fun j hj => Nat.lt_succ_of_lt (hb j hj))
theorem pf_pl_c {f f2 : Nat → Int32} {v : Int32} : ∀ m i, (∀ k, k < i + m → f k = f2 k) → pf_pl f v m i = pf_pl f2 v m i := by
  intro m
  induction m with
  | zero => intro i _; rfl
  | succ m ih => intro i h; rw [pf_pl, pf_pl, h i (by omega), ih _ (fun k hk => h k (by omega))]
theorem ch_eq {dv P P2 : Nat → Int32} : ∀ (m i : Nat) (o : Option Nat) (l : Int32), (∀ k, i ≤ k → k < i + m → (pc_one dv P k = -1 ∧ ¬ 0 ≤ P2 k) ∨ (¬ pc_one dv P k = -1 ∧ 0 ≤ P2 k ∧ pc_one dv P k = P2 k)) → (o = none → l = -1) → (∀ j, o = some j → l = P2 j ∧ 0 ≤ P2 j) → pc_ch dv P m i (pf_cd o) l = pf_cd (pm_ch P2 m i o) := by
  intro m
  induction m with
  | zero => intro i o l _ _ _; rfl
  | succ m ih =>
    intro i o l h h1 h2
    rw [pc_ch, pm_ch]
    have hr : ∀ k, i + 1 ≤ k → k < i + 1 + m → _ := fun k a b => h k (by omega) (by omega)
    rcases h i (by omega) (by omega) with ⟨a1, a2⟩ | ⟨a1, a2, a3⟩
    · rw [if_neg (fun z => z.1 a1), if_neg (fun z => a2 z.1)]
      exact ih _ _ _ hr h1 h2
    · have key : (l = -1 ∨ pc_one dv P i < l) ↔ pm_lt P2 i o := by
        cases o with
        | none => exact ⟨fun _ => trivial, fun _ => Or.inl (h1 rfl)⟩
        | some j =>
          obtain ⟨b1, b2⟩ := h2 j rfl
          show _ ↔ P2 i < P2 j
          rw [a3, b1]
          constructor
          · rintro (z | z)
            · rw [z] at b2; exact absurd b2 (by decide)
            · exact z
          · exact Or.inr
      by_cases c : pm_lt P2 i o
      · rw [if_pos ⟨a1, key.mpr c⟩, if_pos ⟨a2, c⟩]
        exact ih _ (some i) _ hr (fun z => nomatch z) (fun j hj => by cases hj; exact ⟨a3, a2⟩)
      · rw [if_neg (fun z => c (key.mp z.2)), if_neg (fun z => c z.2)]
        exact ih _ _ _ hr h1 h2
