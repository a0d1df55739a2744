/-! the pure side: parcels -/
def ps_min (v : Int32) (S : Nat → Prop) : Prop := (v = -1 ∧ ∀ c, ¬ S c) ∨ (∃ n : Nat, n ≤ 10000000 ∧ v = nI n ∧ S n ∧ ∀ c, S c → n ≤ c)
theorem ps_uniq {v w : Int32} {S : Nat → Prop} (h : ps_min v S) (g : ps_min w S) : v = w := by
  rcases h with ⟨h1, h2⟩ | ⟨n, h1, h2, h3, h4⟩ <;> rcases g with ⟨g1, g2⟩ | ⟨m, g1, g2, g3, g4⟩
  · rw [h1, g1]
  · exact absurd g3 (h2 m)
  · exact absurd h3 (g2 n)
  · have a := h4 m g3
    have b := g4 n h3
    rw [h2, g2, show n = m by omega]
theorem ps_min_c {v : Int32} {S S2 : Nat → Prop} (h : ps_min v S) (e : ∀ c, S c ↔ S2 c) : ps_min v S2 := by
  rcases h with ⟨h1, h2⟩ | ⟨n, h1, h2, h3, h4⟩
  · exact Or.inl ⟨h1, fun c hc => h2 c ((e c).mpr hc)⟩
  · exact Or.inr ⟨n, h1, h2, (e n).mp h3, fun c hc => h4 c ((e c).mpr hc)⟩
/-- one more cost -/
theorem ps_add {b : Int32} {B : Nat → Prop} {k : Nat} (h : ps_min b B) (hk : k ≤ 10000000) : ps_min (if b = -1 ∨ nI k < b then nI k else b) (fun c => B c ∨ c = k) := by
  rcases h with ⟨h1, h2⟩ | ⟨n, h1, h2, h3, h4⟩
  · rw [if_pos (Or.inl h1)]
    exact Or.inr ⟨k, hk, rfl, Or.inr rfl, fun c hc => by rcases hc with hc | hc; exact absurd hc (h2 c); omega⟩
  · rw [h2]
    by_cases z : k < n
    · rw [if_pos (Or.inr ((nI_ltI (by omega) (by omega)).mpr z))]
      exact Or.inr ⟨k, hk, rfl, Or.inr rfl, fun c hc => by rcases hc with hc | hc; have := h4 c hc; omega; omega⟩
    · rw [if_neg (fun y => by rcases y with y | y; exact nI_m1 (by omega) y; exact z ((nI_ltI (by omega) (by omega)).mp y))]
      exact Or.inr ⟨n, h1, rfl, Or.inl h3, fun c hc => by rcases hc with hc | hc; exact h4 c hc; omega⟩
/-- the costs of at most p parcels of steps from i on -/
def ps_S (A U E : Nat → Nat) (ok : Nat → Prop) (sp : Nat) : Nat → Nat → Int → Int → Nat → Prop
  | 0, _, lo, hi, c => lo ≤ 0 ∧ 0 ≤ hi ∧ c = 0
  | p + 1, i, lo, hi, c => (lo ≤ 0 ∧ 0 ≤ hi ∧ c = 0) ∨ ∃ j c2, i ≤ j ∧ j < sp ∧ ok j ∧ ps_S A U E ok sp p j (lo - U j) (hi - A j - 1) c2 ∧ c = c2 + E j
theorem ps_neg {A U E : Nat → Nat} {ok : Nat → Prop} {sp : Nat} : ∀ (p i : Nat) (lo hi : Int) (c : Nat), hi < 0 → ¬ ps_S A U E ok sp p i lo hi c := by
  intro p
  induction p with
  | zero => intro i lo hi c h z; have := z.2.1; omega
  | succ p ih =>
    intro i lo hi c h z
    rcases z with z | ⟨j, c2, _, _, _, z, _⟩
    · have := z.2.1; omega
    · exact ih _ _ _ _ (by omega) z
theorem ps_bd {A U E : Nat → Nat} {ok : Nat → Prop} {sp : Nat} (hE : ∀ i, i < sp → E i ≤ 1000000) : ∀ (p i : Nat) (lo hi : Int) (c : Nat), ps_S A U E ok sp p i lo hi c → c ≤ 1000000 * p := by
  intro p
  induction p with
  | zero => intro i lo hi c h; have := h.2.2; omega
  | succ p ih =>
    intro i lo hi c h
    rcases h with h | ⟨j, c2, _, hj, _, z, e⟩
    · have := h.2.2; omega
    · have := ih _ _ _ _ z; have := hE j hj; omega
theorem i32_sub {a b : Int32} {x : Int} {n : Nat} (ha : a.toInt = x) (hb : b = nI n) (hn : n ≤ 100000) (h1 : -1000000000 ≤ x) (h2 : x ≤ 1000000000) : (a - b).toInt = x - n := by
  rw [Int32.toInt_sub, ha, hb, nI_toInt (by omega)]
  exact Int.bmod_eq_of_le (by omega) (by omega)
section
variable {la ab ut ce : Nat → Int32} {A U E : Nat → Nat} {sp : Nat} {l : Int32}
theorem ps_ll {p : Nat} {lo hi : Int32} {x y : Int} {F : Nat → Int32 → Int32 → Int32} (hs : ∀ i, i < sp → A i ≤ 100000 ∧ U i ≤ 100000 ∧ E i ≤ 1000000 ∧ ab i = nI (A i) ∧ ut i = nI (U i) ∧ ce i = nI (E i)) (hp : p ≤ 8)
    (hF : ∀ j, j < sp → ps_min (F j (lo - ut j) (hi - ab j - 1)) (ps_S A U E (fun i => la i = l) sp p j (x - U j) (y - A j - 1))) :
    ∀ (m i : Nat) (b : Int32) (B : Nat → Prop), i + m = sp → ps_min b B → ps_min (pr_ll F la ab ut ce l lo hi m i b) (fun c => B c ∨ ∃ j c2, i ≤ j ∧ j < sp ∧ la j = l ∧ ps_S A U E (fun i => la i = l) sp p j (x - U j) (y - A j - 1) c2 ∧ c = c2 + E j) := by
  intro m
  induction m with
  | zero =>
    intro i b B hm h
    refine ps_min_c h (fun c => ⟨Or.inl, fun z => ?_⟩)
    rcases z with z | ⟨j, c2, z1, z2, _⟩
    · exact z
    · omega
  | succ m ih =>
    intro i b B hm h
    have hi' : i < sp := by omega
    obtain ⟨s1, s2, s3, s4, s5, s6⟩ := hs i hi'
    have hb := ps_bd (A := A) (U := U) (ok := fun i => la i = l) (fun j hj => (hs j hj).2.2.1) p i (x - U i) (y - A i - 1)
    rw [pr_ll]
    have next : ∀ (b2 : Int32) (B2 : Nat → Prop), ps_min b2 B2 → (∀ c, B2 c ↔ (B c ∨ ∃ c2, la i = l ∧ ps_S A U E (fun i => la i = l) sp p i (x - U i) (y - A i - 1) c2 ∧ c = c2 + E i)) → ps_min (pr_ll F la ab ut ce l lo hi m (i + 1) b2) (fun c => B c ∨ ∃ j c2, i ≤ j ∧ j < sp ∧ la j = l ∧ ps_S A U E (fun i => la i = l) sp p j (x - U j) (y - A j - 1) c2 ∧ c = c2 + E j) := by
      intro b2 B2 k1 k2
      refine ps_min_c (ih (i + 1) b2 B2 (by omega) k1) (fun c => ?_)
      rw [k2]
      constructor
      · rintro ((z | ⟨c2, z1, z2, z3⟩) | ⟨j, c2, z1, z2, z3, z4, z5⟩)
        · exact Or.inl z
        · exact Or.inr ⟨i, c2, Nat.le_refl _, hi', z1, z2, z3⟩
        · exact Or.inr ⟨j, c2, by omega, z2, z3, z4, z5⟩
      · rintro (z | ⟨j, c2, z1, z2, z3, z4, z5⟩)
        · exact Or.inl (Or.inl z)
        · by_cases q : j = i
          · subst q; exact Or.inl (Or.inr ⟨c2, z3, z4, z5⟩)
          · exact Or.inr ⟨j, c2, by omega, z2, z3, z4, z5⟩
    by_cases c1 : la i = l
    · rcases hF i hi' with ⟨k1, k2⟩ | ⟨k, k1, k2, k3, k4⟩
      · rw [if_neg (fun z => z.2.1 k1)]
        exact next b B h (fun c => ⟨Or.inl, fun z => by rcases z with z | ⟨c2, _, z2, _⟩; exact z; exact absurd z2 (k2 c2)⟩)
      · have hk := hb k k3
        have e : F i (lo - ut i) (hi - ab i - 1) + ce i = nI (k + E i) := by rw [k2, s6, nI_add]
        have n1 : ¬ F i (lo - ut i) (hi - ab i - 1) = -1 := by rw [k2]; exact nI_m1 (by omega)
        rw [e]
        have q := ps_add (k := k + E i) h (by omega)
        have q2 : (if la i = l ∧ ¬ F i (lo - ut i) (hi - ab i - 1) = -1 ∧ (b = -1 ∨ nI (k + E i) < b) then nI (k + E i) else b) = (if b = -1 ∨ nI (k + E i) < b then nI (k + E i) else b) := by
          by_cases z : b = -1 ∨ nI (k + E i) < b
          · rw [if_pos z, if_pos ⟨c1, n1, z⟩]
          · rw [if_neg z, if_neg (fun y => z y.2.2)]
        rw [q2]
        -- the least of this step's costs stands for all of them
        have q3 : ps_min (if b = -1 ∨ nI (k + E i) < b then nI (k + E i) else b) (fun c => B c ∨ ∃ c2, la i = l ∧ ps_S A U E (fun i => la i = l) sp p i (x - U i) (y - A i - 1) c2 ∧ c = c2 + E i) := by
          rcases q with ⟨_, q⟩ | ⟨n, q4, q5, q6, q7⟩
          · exact absurd (Or.inr rfl) (q (k + E i))
          · refine Or.inr ⟨n, q4, q5, ?_, ?_⟩
            · rcases q6 with q6 | q6
              · exact Or.inl q6
              · exact Or.inr ⟨k, c1, k3, q6⟩
            · rintro c (z | ⟨c2, _, z2, z3⟩)
              · exact q7 c (Or.inl z)
              · have := k4 c2 z2; have := q7 (k + E i) (Or.inr rfl); omega
        exact next _ _ q3 (fun c => Iff.rfl)
    · rw [if_neg (fun z => c1 z.1)]
      exact next b B h (fun c => ⟨Or.inl, fun z => by rcases z with z | ⟨c2, z1, _⟩; exact z; exact absurd z1 c1⟩)
theorem ps_lc (hs : ∀ i, i < sp → A i ≤ 100000 ∧ U i ≤ 100000 ∧ E i ≤ 1000000 ∧ ab i = nI (A i) ∧ ut i = nI (U i) ∧ ce i = nI (E i)) : ∀ (p i : Nat) (lo hi : Int32) (x y : Int), p ≤ 8 → i ≤ sp → lo.toInt = x → hi.toInt = y → -1000000 * (10 - p) ≤ x → x ≤ 1000000 → -1000000 * (10 - p) ≤ y → y ≤ 1000000 →
    ps_min (pr_lc la ab ut ce sp l p i lo hi) (ps_S A U E (fun i => la i = l) sp p i x y) := by
  intro p
  induction p with
  | zero =>
    intro i lo hi x y _ _ e1 e2 _ _ _ _
    rw [pr_lc]
    have d : (lo ≤ 0 ∧ 0 ≤ hi) ↔ (x ≤ 0 ∧ 0 ≤ y) := by rw [Int32.le_iff_toInt_le, Int32.le_iff_toInt_le, e1, e2]; exact Iff.rfl
    by_cases c : lo ≤ 0 ∧ 0 ≤ hi
    · rw [if_pos c]
      exact Or.inr ⟨0, by omega, rfl, ⟨(d.mp c).1, (d.mp c).2, rfl⟩, fun _ _ => Nat.zero_le _⟩
    · rw [if_neg c]
      exact Or.inl ⟨rfl, fun k hk => c (d.mpr ⟨hk.1, hk.2.1⟩)⟩
  | succ p ih =>
    intro i lo hi x y hp hisp e1 e2 b1 b2 b3 b4
    rw [pr_lc]
    have d : (lo ≤ 0 ∧ 0 ≤ hi) ↔ (x ≤ 0 ∧ 0 ≤ y) := by rw [Int32.le_iff_toInt_le, Int32.le_iff_toInt_le, e1, e2]; exact Iff.rfl
    by_cases c : lo ≤ 0 ∧ 0 ≤ hi
    · rw [if_pos c]
      exact Or.inr ⟨0, by omega, rfl, Or.inl ⟨(d.mp c).1, (d.mp c).2, rfl⟩, fun _ _ => Nat.zero_le _⟩
    · rw [if_neg c]
      by_cases c2 : hi < 0
      · rw [if_pos c2]
        have : y < 0 := by rw [Int32.lt_iff_toInt_lt, e2] at c2; exact c2
        exact Or.inl ⟨rfl, fun k hk => ps_neg _ _ _ _ _ this hk⟩
      · rw [if_neg c2]
        have r := ps_ll (la := la) (ab := ab) (ut := ut) (ce := ce) (l := l) (lo := lo) (hi := hi) (x := x) (y := y) (p := p) (F := pr_lc la ab ut ce sp l p) hs (by omega) (fun j hj => by
          obtain ⟨s1, s2, s3, s4, s5, s6⟩ := hs j hj
          have f1 := i32_sub (n := U j) e1 s5 s2 (by omega) (by omega)
          have f2 := i32_sub (n := A j) e2 s4 s1 (by omega) (by omega)
          have f3 := i32_sub (b := 1) (n := 1) f2 rfl (by omega) (by omega) (by omega)
          exact ih j _ _ _ _ (by omega) (by omega) f1 f3 (by omega) (by omega) (by omega) (by omega)) (sp - i) i (-1) (fun _ => False) (by omega) (Or.inl ⟨rfl, fun _ z => z⟩)
        refine ps_min_c r (fun k => ?_)
        constructor
        · rintro (z | z)
          · exact absurd z (fun z => z)
          · exact Or.inr z
        · rintro (z | z)
          · exact absurd (d.mpr ⟨z.1, z.2.1⟩) c
          · exact Or.inr z
end
