/-! THE JUDGEMENT: method md stands at pc with locals lc, stack st, memory (n, C); it comes to an end with Q -/
/-- name, bytes, locals, what it returns, its handlers -/
abbrev gj_M : Type := MethodName × ByteArray × Nat × Option FieldType × List (Nat × Nat × Nat × Nat)
/-- the end: a value, or an exception's class; the memory -/
abbrev gj_R : Type := (Option Value ⊕ String) × Nat × (Nat → va_E)
def gj_tys (dA : Nat → ClassId) : List (ClassId × FieldType) := (List.range gj_at.length).map (fun i => (dA i, gj_at.getD i .int))
theorem gj_tys_at {dA : Nat → ClassId} {k : Nat} {ty : FieldType} (h : gj_at[k]? = some ty) : (gj_tys dA)[k]? = some (dA k, ty) := by
  have hk : k < gj_at.length := (List.getElem?_eq_some_iff.mp h).1
  unfold gj_tys
  rw [List.getElem?_map, List.getElem?_range hk]
  show some (dA k, gj_at.getD k .int) = _
  rw [List.getD_eq_getElem?_getD, h]
  rfl
/-- what the Statement gives of the start, part by part -/
def gj_nar : List Cond := flatC (Jvm.Cond.and given_1 narrow_1)
def gj_Cx (md : gj_M) (p : Program) (l : Launch) (s : State) (m : MethodId) (meth : Method) (c : Code) (s0 : State) (a0 : Array Value) : Prop :=
  p.tables.exec = Jvm.exec ∧ c.code = md.2.1 ∧ l.stackTraces = false ∧ ((∀ w ∈ lw_tbl, w.before a0 s0 = true) ∧ (Jvm.Cond.and given_1 narrow_1).before a0 s0 = true) ∧ s0.WarmedH s.vm ∧ (s0.heap.size ≤ s.heap.size ∧ ∀ q : Nat, q < s0.heap.size → s.heap[q]? = s0.heap[q]?) ∧
  meth.sig.returnType = md.2.2.2.1 ∧ c.maxLocals = md.2.2.1 ∧ s.vm.findClass md.1.cls = some m.cls ∧ meth.locks = false ∧ meth.name = md.1.name ∧ c.exceptionTable.toList = tableOf md.2.2.2.2
def gj_ro (d K N : Nat) (R : Room) : Prop := d + 8 ≤ R.frames ∧ 60 * d + 200 ≤ R.locals ∧ K ≤ R.cells ∧ N ≤ R.slots
/-- what the machine's outcome is to the pure one -/
def gj_out (rv : Option Value ⊕ String) (ad : Nat → Nat) (s : State) (o : Outcome) (t : State) : Prop := match rv with
  | .inl v => o = .returned (v.map (gj_tv ad))
  | .inr E => ∃ (q : Addr) (ce : Cell), o = .threw q ∧ t.heap[q]? = some ce ∧ ce.vm = .none ∧ s.vm.findClass E = some ce.cls
def gj_or (n : Nat) (rv : Option Value ⊕ String) : Prop := match rv with
  | .inl (some v) => gj_ov n v
  | _ => True
def gj_E (below : List Frame) (s s0 : State) (dC : Nat → ClassId) (dI : Nat → Nat → Nat) (dA : Nat → ClassId) (ad : Nat → Nat) (C0 : va_E) (n K N : Nat) (Q : gj_R → Prop) : State → Prop := fun t =>
  ∃ (o : Outcome) (L : List Loc) (rv : Option Value ⊕ String) (n' : Nat) (C' : Nat → va_E) (ad' : Nat → Nat), t.status = .running ∧ Ended t below o ∧ s.WarmedH t.vm ∧ s.sameButNew ({ t with vm := s.vm } : State) L K N ∧ (∀ z ∈ L, s0.heap.size ≤ z.base) ∧
    (s0.heap.size ≤ t.heap.size ∧ ∀ q : Nat, q < s0.heap.size → t.heap[q]? = s0.heap[q]?) ∧ Q (rv, n', C') ∧ gj_out rv ad' s o t ∧ gj_or n' rv ∧ n ≤ n' ∧ (∀ x, x ≤ n → ad' x = ad x) ∧ C' 0 = C0 ∧
    va_P (dC, dI) gj_cl (gj_ws dA ad' n' C') t.heap ∧ va_D (fun q : Nat => s0.heap.size ≤ q) (gj_ws dA ad' n' C') ∧ gj_oC n' C'
/-- the script: label 0 -/
def gj_sc (s0 : State) (ad : Nat → Nat) (e : va_E) : Prop := ∃ (L : Nat) (xs : Nat → Int32), e = .inl (999, L, .inl xs) ∧ va_X (ad 0) L xs s0 s0.heap ∧ ad 0 < s0.heap.size
def gj_G (md : gj_M) (d K N k w pc : Nat) (lc : List (Nat × Value)) (st : List Value) (n : Nat) (C : Nat → va_E) (Q : gj_R → Prop) : Prop :=
  ∀ (p : Program) (l : Launch) (e : Env) (R : Room) (s : State) (m : MethodId) (args : Array Value) (below : List Frame) (meth : Method) (c : Code) (s0 : State) (a0 : Array Value) (dC : Nat → ClassId) (dI : Nat → Nat → Nat) (dA : Nat → ClassId) (H : Heap) (locs : List Loc) (ad : Nat → Nat) (ls : Array Slot),
    gj_Cx md p l s m meth c s0 a0 → gj_ro d K N R → va_K (dC, dI) gj_cl (gj_tys dA) s0 →
    va_P (dC, dI) gj_cl (gj_ws dA ad n C) H → va_D (fun q : Nat => s0.heap.size ≤ q) (gj_ws dA ad n C) → va_S (fun q : Nat => s0.heap.size ≤ q) s.heap H locs → gj_oC n C → gj_sc s0 ad (C 0) → gj_ol n lc st → lv_has ls md.2.2.1 (gj_tl ad lc) →
    W p l e R s m args below meth c H locs k w (gj_E below s s0 dC dI dA ad (C 0) n K N Q) (F0 m pc ls (st.map (gj_tv ad)))
theorem gj_Wm {p : Program} {l : Launch} {e : Env} {R : Room} {s : State} {m : MethodId} {args : Array Value} {below : List Frame} {meth : Method} {c : Code} {H : Heap} {locs : List Loc} {k w : Nat} {Q Q' : State → Prop} {g : JFrame} (h : W p l e R s m args below meth c H locs k w Q g) (hq : ∀ t, Q t → Q' t) : W p l e R s m args below meth c H locs k w Q' g := fun T hT X => by
  obtain ⟨t, a, b⟩ := h T hT X
  exact ⟨t, a, hq t b⟩
/-- a later memory's end is an earlier one's -/
theorem gj_E_mono {below : List Frame} {s s0 : State} {dC : Nat → ClassId} {dI : Nat → Nat → Nat} {dA : Nat → ClassId} {ad ad1 : Nat → Nat} {C0 C1 : va_E} {n n1 K N : Nat} {Q : gj_R → Prop} (hn : n ≤ n1) (ha : ∀ x, x ≤ n → ad1 x = ad x) (h0 : C1 = C0) (t : State) (h : gj_E below s s0 dC dI dA ad1 C1 n1 K N Q t) : gj_E below s s0 dC dI dA ad C0 n K N Q t := by
  subst h0
  obtain ⟨o, L, rv, n', C', ad', h1, h2, h3, h4, h5, h6, h7, h8, h9, h10, h11, h12⟩ := h
  exact ⟨o, L, rv, n', C', ad', h1, h2, h3, h4, h5, h6, h7, h8, h9, Nat.le_trans hn h10, fun x hx => (h11 x (Nat.le_trans hx hn)).trans (ha x hx), h12⟩
theorem gj_conseq {md : gj_M} {d K N k w pc : Nat} {lc : List (Nat × Value)} {st : List Value} {n : Nat} {C : Nat → va_E} {Q Q' : gj_R → Prop} (h : gj_G md d K N k w pc lc st n C Q) (hq : ∀ r, Q r → Q' r) : gj_G md d K N k w pc lc st n C Q' := by
  intro p l e R s m args below meth c s0 a0 dC dI dA H locs ad ls cx ro hK hP hD hS oC sc ol hl
  refine gj_Wm (h p l e R s m args below meth c s0 a0 dC dI dA H locs ad ls cx ro hK hP hD hS oC sc ol hl) ?_
  intro t ⟨o, L, rv, n', C', ad', h1, h2, h3, h4, h5, h6, h7, h8, h9⟩
  exact ⟨o, L, rv, n', C', ad', h1, h2, h3, h4, h5, h6, hq _ h7, h8, h9⟩
theorem gj_widen {md : gj_M} {d K N k w k' w' pc : Nat} {lc : List (Nat × Value)} {st : List Value} {n : Nat} {C : Nat → va_E} {Q : gj_R → Prop} (h1 : k ≤ k') (h2 : w ≤ w') (h : gj_G md d K N k' w' pc lc st n C Q) : gj_G md d K N k w pc lc st n C Q := by
  intro p l e R s m args below meth c s0 a0 dC dI dA H locs ad ls cx ro hK hP hD hS oC sc ol hl
  exact W.widen h1 h2 (h p l e R s m args below meth c s0 a0 dC dI dA H locs ad ls cx ro hK hP hD hS oC sc ol hl)
/-- more depth and room than is needed -/
theorem gj_deeper {md : gj_M} {d d' K N k w pc : Nat} {lc : List (Nat × Value)} {st : List Value} {n : Nat} {C : Nat → va_E} {Q : gj_R → Prop} (hd : d ≤ d') (h : gj_G md d K N k w pc lc st n C Q) : gj_G md d' K N k w pc lc st n C Q := by
  intro p l e R s m args below meth c s0 a0 dC dI dA H locs ad ls cx ro hK hP hD hS oC sc ol hl
  exact h p l e R s m args below meth c s0 a0 dC dI dA H locs ad ls cx ⟨by have := ro.1; omega, by have := ro.2.1; omega, ro.2.2⟩ hK hP hD hS oC sc ol hl
/-- a word of the tables, here -/
theorem gj_word {md : gj_M} {p : Program} {l : Launch} {s : State} {m : MethodId} {meth : Method} {c : Code} {s0 : State} {a0 args : Array Value} (cx : gj_Cx md p l s m meth c s0 a0) {w : Cond} (hw : w ∈ lw_tbl) (hg : goodWord w = true) : w.before args s = true :=
  word_at cx.2.2.2.2.1 (good_of_word hg) (cx.2.2.2.1.1 w hw)
/-- a method ends with v on its stack: what W's own rows want -/
theorem gj_fin {below : List Frame} {args : Array Value} {s s0 : State} {dC : Nat → ClassId} {dI : Nat → Nat → Nat} {dA : Nat → ClassId} {ad : Nat → Nat} {n K N k w : Nat} {C : Nat → va_E} {H : Heap} {Q : gj_R → Prop} {v : Option Value}
    (h0 : s0.heap.size ≤ s.heap.size ∧ ∀ q : Nat, q < s0.heap.size → s.heap[q]? = s0.heap[q]?) {locs : List Loc} (hS : va_S (fun q : Nat => s0.heap.size ≤ q) s.heap H locs)
    (hP : va_P (dC, dI) gj_cl (gj_ws dA ad n C) H) (hD : va_D (fun q : Nat => s0.heap.size ≤ q) (gj_ws dA ad n C)) (oC : gj_oC n C) (hv : gj_or n (.inl v)) (hk : k ≤ K) (hw : w ≤ N) (hQ : Q (.inl v, n, C)) (t : State)
    (h : MQ below (fun _ _ o t => o = .returned (v.map (gj_tv ad)) ∧ t.heap = H) args s k w (fun q : Nat => s0.heap.size ≤ q) t) : gj_E below s s0 dC dI dA ad (C 0) n K N Q t := by
  obtain ⟨o, h1, h2, ⟨h3, h4⟩, L, ⟨-, h5, h6⟩, h7⟩ := h
  refine ⟨o, L, .inl v, n, C, ad, h1, h2, h5, h6.mono hk hw, h7, ?_, hQ, h3, hv, Nat.le_refl n, fun _ _ => rfl, rfl, ?_, hD, oC⟩
  · rw [h4]
    exact ⟨Nat.le_trans h0.1 hS.1, fun q hq => by rw [hS.2.1 q (Nat.lt_of_lt_of_le hq h0.1) (Nat.not_le.mpr hq)]; exact h0.2 q hq⟩
  · rw [h4]; exact hP
section
variable {md : gj_M} {d K N k w pc : Nat} {lc : List (Nat × Value)} {st : List Value} {n : Nat} {C : Nat → va_E} {Q : gj_R → Prop}
theorem gj_iret {v : Int32} (hr : md.2.2.2.1 = some .int) (hk : k ≤ K) (hw : w ≤ N) (hd : decode md.2.1 pc = .ok (.ireturn, 1)) (hQ : Q (.inl (some (.int v)), n, C)) : gj_G md d K N k w pc lc [.int v] n C Q := by
  intro p l e R s m args below meth c s0 a0 dC dI dA H locs ad ls cx ro hK hP hD hS oC sc ol hl
  obtain ⟨hx, hb, -, -, -, h0, hret, -, -, hlocks, -⟩ := cx
  exact gj_Wm (W.iret (v := v) hx hb (hret.trans hr) (fun t ht _ => ⟨rfl, ht⟩) hS.2.2 hd hlocks) (gj_fin (v := some (.int v)) h0 hS hP hD oC trivial hk hw hQ)
theorem gj_zret {v : Int32} (hr : md.2.2.2.1 = some .boolean) (hz : v = 0 ∨ v = 1) (hk : k ≤ K) (hw : w ≤ N) (hd : decode md.2.1 pc = .ok (.ireturn, 1)) (hQ : Q (.inl (some (.int v)), n, C)) : gj_G md d K N k w pc lc [.int v] n C Q := by
  intro p l e R s m args below meth c s0 a0 dC dI dA H locs ad ls cx ro hK hP hD hS oC sc ol hl
  obtain ⟨hx, hb, -, -, -, h0, hret, -, -, hlocks, -⟩ := cx
  have hn : narrow .boolean (.int v) = .int v := by rcases hz with rfl | rfl <;> decide
  exact gj_Wm (W.zret (v := v) hx hb (hret.trans hr) hn (fun t ht _ => ⟨rfl, ht⟩) hS.2.2 hd hlocks) (gj_fin (v := some (.int v)) h0 hS hP hD oC trivial hk hw hQ)
theorem gj_lret {v : Int64} (hr : md.2.2.2.1 = some .long) (hk : k ≤ K) (hw : w ≤ N) (hd : decode md.2.1 pc = .ok (.lreturn, 1)) (hQ : Q (.inl (some (.long v)), n, C)) : gj_G md d K N k w pc lc [.long v] n C Q := by
  intro p l e R s m args below meth c s0 a0 dC dI dA H locs ad ls cx ro hK hP hD hS oC sc ol hl
  obtain ⟨hx, hb, -, -, -, h0, hret, -, -, hlocks, -⟩ := cx
  exact gj_Wm (W.lret (v := v) hx hb (hret.trans hr) (fun t ht _ => ⟨rfl, ht⟩) hS.2.2 hd hlocks) (gj_fin (v := some (.long v)) h0 hS hP hD oC trivial hk hw hQ)
theorem gj_vret (hr : md.2.2.2.1 = none) (hk : k ≤ K) (hw : w ≤ N) (hd : decode md.2.1 pc = .ok (.return_, 1)) (hQ : Q (.inl none, n, C)) : gj_G md d K N k w pc lc [] n C Q := by
  intro p l e R s m args below meth c s0 a0 dC dI dA H locs ad ls cx ro hK hP hD hS oC sc ol hl
  obtain ⟨hx, hb, -, -, -, h0, hret, -, -, hlocks, -⟩ := cx
  exact gj_Wm (W.vret hx hb (hret.trans hr) (fun t ht _ => ⟨rfl, ht⟩) hS.2.2 hd hlocks) (gj_fin (v := none) h0 hS hP hD oC trivial hk hw hQ)
theorem gj_aret {C0 : String} {v : Value} (hr : md.2.2.2.1 = some (.object C0)) (hv : v = .null ∨ ∃ x, v = .ref x) (hk : k ≤ K) (hw : w ≤ N) (hd : decode md.2.1 pc = .ok (.areturn, 1)) (hQ : Q (.inl (some v), n, C)) : gj_G md d K N k w pc lc [v] n C Q := by
  intro p l e R s m args below meth c s0 a0 dC dI dA H locs ad ls cx ro hK hP hD hS oC sc ol hl
  obtain ⟨hx, hb, -, -, -, h0, hret, -, -, hlocks, -⟩ := cx
  exact gj_Wm (W.aret (v := gj_tv ad v) hx hb (hret.trans hr) (Or.inl ⟨_, rfl⟩) (hv.elim (fun h => Or.inl (by rw [h]; rfl)) (fun ⟨x, h⟩ => Or.inr ⟨ad x, by rw [h]; rfl⟩)) (fun t ht _ => ⟨rfl, ht⟩) hS.2.2 hd hlocks) (gj_fin (v := some v) h0 hS hP hD oC (ol.2 v List.mem_cons_self) hk hw hQ)
end
