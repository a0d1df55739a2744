/-! MAKING: a new cell takes the next label -/
section
variable {md : gj_M} {d K N k w pc : Nat} {lc : List (Nat × Value)} {st : List Value} {n : Nat} {C : Nat → va_E} {Q : gj_R → Prop}
theorem gj_grow {p : Program} {l : Launch} {e : Env} {R : Room} {s : State} {m : MethodId} {args : Array Value} {below : List Frame} {meth : Method} {c : Code} {s0 : State} {a0 : Array Value} {dC : Nat → ClassId} {dI : Nat → Nat → Nat} {dA : Nat → ClassId} {H1 : Heap} {locs : List Loc} {ad : Nat → Nat} {ls : Array Slot} {q : Nat} {ne : va_E}
    (kk : gj_G md d K N k w pc lc (.ref (n + 1) :: st) (n + 1) (va_up C (n + 1) ne) Q) (cx : gj_Cx md p l s m meth c s0 a0) (ro : gj_ro d K N R) (hK : va_K (dC, dI) gj_cl (gj_tys dA) s0)
    (hP : va_P (dC, dI) gj_cl (gj_ws dA ad n C ++ [(q, gj_te dA ad ne)]) H1) (hD : va_D (fun q : Nat => s0.heap.size ≤ q) (gj_ws dA ad n C ++ [(q, gj_te dA ad ne)])) (hS : va_S (fun q : Nat => s0.heap.size ≤ q) s.heap H1 locs) (oC : gj_oC n C) (he : gj_oe n ne) (sc : gj_sc s0 ad (C 0)) (ol : gj_ol n lc st) (hl : lv_has ls md.2.2.1 (gj_tl ad lc)) :
    W p l e R s m args below meth c H1 locs k w (gj_E below s s0 dC dI dA ad (C 0) n K N Q) (F0 m pc ls (.ref q :: st.map (gj_tv ad))) := by
  have ha : ∀ x, x ≤ n → va_up ad (n + 1) q x = ad x := fun x hx => va_up_ne ad q (by omega)
  have h0 : va_up C (n + 1) ne 0 = C 0 := va_up_ne C ne (by omega)
  rw [gj_ws_push oC he] at hP hD
  have := kk p l e R s m args below meth c s0 a0 dC dI dA H1 locs (va_up ad (n + 1) q) ls cx ro hK hP hD hS (gj_oC_push oC (gj_oe_le (Nat.le_succ n) he)) (by
    rw [h0]
    obtain ⟨L, xs, h1, h2, h3⟩ := sc
    have h4 := ha 0 (Nat.zero_le n)
    exact ⟨L, xs, h1, by rw [h4]; exact h2, by rw [h4]; exact h3⟩) (gj_ol_push (gj_ol_le (Nat.le_succ n) ol) (Nat.le_refl (n + 1))) (by rw [gj_tl_eq ha ol.1]; exact hl)
  rw [List.map_cons, gj_ts_eq ha ol.2, show gj_tv (va_up ad (n + 1) q) (.ref (n + 1)) = .ref q from congrArg Value.ref (va_up_self ad (n + 1) q)] at this
  exact gj_Wm this (gj_E_mono (Nat.le_succ n) ha h0)
theorem gj_newI {z : Int32} {kA len : Nat} (hd : decode md.2.1 pc = .ok (.newarray .int, 2)) (hw : Cond.arrayClass .int ∈ lw_tbl) (ha : gj_at[kA]? = some .int) (hz : ¬ z < 0) (hl : z.toNatClampNeg = len) (hb : len * 4 ≤ 536870912) (hk : k + 1 ≤ K) (hn : w + len ≤ N)
    (kk : gj_G md d K N (k + 1) (w + len) (pc + 2) lc (.ref (n + 1) :: st) (n + 1) (va_up C (n + 1) (.inl (kA, len, .inl (fun _ => 0)))) Q) : gj_G md d K N k w pc lc (.int z :: st) n C Q := by
  intro p l e R s m args below meth c s0 a0 dC dI dA H locs ad ls cx ro hK hP hD hS oC sc ol hl2
  have hKs := va_K.moved cx.2.2.2.2.1.alike hK
  refine va_newa (atype := .int) (ty := .int) (D := (dC, dI)) (cl := gj_cl) (a0 := (len, .inl (fun _ => 0))) cx.1 cx.2.1 (gj_word cx hw rfl) rfl hKs hP hD hS (fun q hq => Nat.le_trans cx.2.2.2.2.2.1.1 hq) (fun _ => rfl) hz hl hb (Nat.le_trans hk ro.2.2.1) (Nat.le_trans hn ro.2.2.2) hd (fun q cA H1 hK1 hP1 hD1 hS1 => ?_)
  have e1 : s.vm.findClass ("[" ++ FieldType.int.toString) = some cA := (hK1.2 (gj_tys dA).length (cA, .int) (by simp)).2
  have e2 : s.vm.findClass ("[" ++ FieldType.int.toString) = some (dA kA) := (hKs.2 kA (dA kA, .int) (gj_tys_at ha)).2
  cases Option.some.inj (e1.symm.trans e2)
  exact gj_grow (ne := .inl (kA, len, .inl (fun _ => 0))) kk cx ro hK hP1 hD1 hS1 oC trivial sc (gj_ol_pop ol) hl2
theorem gj_newZ {z : Int32} {kA len : Nat} (hd : decode md.2.1 pc = .ok (.newarray .boolean, 2)) (hw : Cond.arrayClass .boolean ∈ lw_tbl) (ha : gj_at[kA]? = some .boolean) (hz : ¬ z < 0) (hl : z.toNatClampNeg = len) (hb : len * 1 ≤ 536870912) (hk : k + 1 ≤ K) (hn : w + len ≤ N)
    (kk : gj_G md d K N (k + 1) (w + len) (pc + 2) lc (.ref (n + 1) :: st) (n + 1) (va_up C (n + 1) (.inl (kA, len, .inl (fun _ => 0)))) Q) : gj_G md d K N k w pc lc (.int z :: st) n C Q := by
  intro p l e R s m args below meth c s0 a0 dC dI dA H locs ad ls cx ro hK hP hD hS oC sc ol hl2
  have hKs := va_K.moved cx.2.2.2.2.1.alike hK
  refine va_newa (atype := .boolean) (ty := .boolean) (D := (dC, dI)) (cl := gj_cl) (a0 := (len, .inl (fun _ => 0))) cx.1 cx.2.1 (gj_word cx hw rfl) rfl hKs hP hD hS (fun q hq => Nat.le_trans cx.2.2.2.2.2.1.1 hq) (fun _ => rfl) hz hl hb (Nat.le_trans hk ro.2.2.1) (Nat.le_trans hn ro.2.2.2) hd (fun q cA H1 hK1 hP1 hD1 hS1 => ?_)
  have e1 : s.vm.findClass ("[" ++ FieldType.boolean.toString) = some cA := (hK1.2 (gj_tys dA).length (cA, .boolean) (by simp)).2
  have e2 : s.vm.findClass ("[" ++ FieldType.boolean.toString) = some (dA kA) := (hKs.2 kA (dA kA, .boolean) (gj_tys_at ha)).2
  cases Option.some.inj (e1.symm.trans e2)
  exact gj_grow (ne := .inl (kA, len, .inl (fun _ => 0))) kk cx ro hK hP1 hD1 hS1 oC trivial sc (gj_ol_pop ol) hl2
theorem gj_newL {z : Int32} {kA len : Nat} (hd : decode md.2.1 pc = .ok (.newarray .long, 2)) (hw : Cond.arrayClass .long ∈ lw_tbl) (ha : gj_at[kA]? = some .long) (hz : ¬ z < 0) (hl : z.toNatClampNeg = len) (hb : len * 8 ≤ 536870912) (hk : k + 1 ≤ K) (hn : w + len ≤ N)
    (kk : gj_G md d K N (k + 1) (w + len) (pc + 2) lc (.ref (n + 1) :: st) (n + 1) (va_up C (n + 1) (.inl (kA, len, .inr (.inl (fun _ => 0))))) Q) : gj_G md d K N k w pc lc (.int z :: st) n C Q := by
  intro p l e R s m args below meth c s0 a0 dC dI dA H locs ad ls cx ro hK hP hD hS oC sc ol hl2
  have hKs := va_K.moved cx.2.2.2.2.1.alike hK
  refine va_newa (atype := .long) (ty := .long) (D := (dC, dI)) (cl := gj_cl) (a0 := (len, .inr (.inl (fun _ => 0)))) cx.1 cx.2.1 (gj_word cx hw rfl) rfl hKs hP hD hS (fun q hq => Nat.le_trans cx.2.2.2.2.2.1.1 hq) (fun _ => rfl) hz hl hb (Nat.le_trans hk ro.2.2.1) (Nat.le_trans hn ro.2.2.2) hd (fun q cA H1 hK1 hP1 hD1 hS1 => ?_)
  have e1 : s.vm.findClass ("[" ++ FieldType.long.toString) = some cA := (hK1.2 (gj_tys dA).length (cA, .long) (by simp)).2
  have e2 : s.vm.findClass ("[" ++ FieldType.long.toString) = some (dA kA) := (hKs.2 kA (dA kA, .long) (gj_tys_at ha)).2
  cases Option.some.inj (e1.symm.trans e2)
  exact gj_grow (ne := .inl (kA, len, .inr (.inl (fun _ => 0)))) kk cx ro hK hP1 hD1 hS1 oC trivial sc (gj_ol_pop ol) hl2
theorem gj_newQ {z : Int32} {kA len ix : Nat} {C0 : String} (hd : decode md.2.1 pc = .ok (.anewarray ix, 3)) (hw : Cond.classLink md.1.cls ix C0 ∈ lw_tbl) (hw2 : Cond.arrayOver (.object C0) ∈ lw_tbl) (ha : gj_at[kA]? = some (.object C0)) (hz : ¬ z < 0) (hl : z.toNatClampNeg = len) (hb : len * 4 ≤ 536870912) (hk : k + 1 ≤ K) (hn : w + len ≤ N)
    (kk : gj_G md d K N (k + 1) (w + len) (pc + 3) lc (.ref (n + 1) :: st) (n + 1) (va_up C (n + 1) (.inl (kA, len, .inr (.inr (.inr (.inr (fun _ => none))))))) Q) : gj_G md d K N k w pc lc (.int z :: st) n C Q := by
  intro p l e R s m args below meth c s0 a0 dC dI dA H locs ad ls cx ro hK hP hD hS oC sc ol hl2
  have hKs := va_K.moved cx.2.2.2.2.1.alike hK
  refine va_newq (D := (dC, dI)) (cl := gj_cl) cx.1 cx.2.1 cx.2.2.2.2.2.2.2.2.1 (gj_word cx hw rfl) (va_AO.moved cx.2.2.2.2.1.alike (va_AO.of (cx.2.2.2.1.1 _ hw2))) hKs hP hD hS (fun q hq => Nat.le_trans cx.2.2.2.2.2.1.1 hq) hz hl hb (Nat.le_trans hk ro.2.2.1) (Nat.le_trans hn ro.2.2.2) hd (fun q cA H1 hK1 hP1 hD1 hS1 => ?_)
  obtain ⟨-, -, -, -, -, e1⟩ : va_RA s cA (.object C0) := (hK1.2 (gj_tys dA).length (cA, .object C0) (by simp)).2
  obtain ⟨-, -, -, -, -, e2⟩ : va_RA s (dA kA) (.object C0) := (hKs.2 kA (dA kA, .object C0) (gj_tys_at ha)).2
  cases Option.some.inj (e1.symm.trans e2)
  exact gj_grow (ne := .inl (kA, len, .inr (.inr (.inr (.inr (fun _ => none)))))) kk cx ro hK hP1 hD1 hS1 oC (fun _ _ h => nomatch h) sc (gj_ol_pop ol) hl2
/-- a class that can be made: its fields' first values -/
def gj_nok (own : String) (ix ci N0 : Nat) (fs : List Value) : Prop := ∃ (C0 : String) (T : u_T) (t0 : Nat → FieldType), gj_cl[ci]? = some (C0, T, N0) ∧ (∀ w ∈ u_ws C0 T N0, w ∈ lw_tbl) ∧ (∀ k, k < N0 → parseFieldDescriptor (T k).2.2.1 = some (t0 k)) ∧ Cond.classLink own ix C0 ∈ lw_tbl ∧ Cond.instantiable C0 N0 ∈ lw_tbl ∧ Cond.initialized C0 ∈ lw_tbl ∧
  (∀ j, j < N0 → defaultValue (t0 j) = vp_V fs j) ∧ (∀ ad, fs.map (gj_tv ad) = fs) ∧ ∀ n, gj_oe n (.inr (ci, fs))
theorem gj_new {ix ci N0 : Nat} {fs : List Value} (hd : decode md.2.1 pc = .ok (.new ix, 3)) (hf : gj_nok md.1.cls ix ci N0 fs) (hk : k + 1 ≤ K) (hn : w + N0 ≤ N)
    (kk : gj_G md d K N (k + 1) (w + N0) (pc + 3) lc (.ref (n + 1) :: st) (n + 1) (va_up C (n + 1) (.inr (ci, fs))) Q) : gj_G md d K N k w pc lc st n C Q := by
  intro p l e R s m args below meth c s0 a0 dC dI dA H locs ad ls cx ro hK hP hD hS oC sc ol hl2
  obtain ⟨C0, T, t0, h1, h2, h3, h4, h5, h6, h7, h8, h9⟩ := hf
  refine va_new (D := (dC, dI)) (cl := gj_cl) (fs := fs) cx.1 cx.2.1 (gj_lays cx h2) (fun _ h => h) t0 h3 cx.2.2.2.2.2.2.2.2.1 (gj_word cx h4 rfl) (gj_word cx h5 rfl) (gj_word cx h6 rfl) (va_K.moved cx.2.2.2.2.1.alike hK) hP hD hS (fun q hq => Nat.le_trans cx.2.2.2.2.2.1.1 hq) h1 h7 (Nat.le_trans hk ro.2.2.1) (Nat.le_trans hn ro.2.2.2) hd (fun q H1 hP1 hD1 hS1 => ?_)
  have e9 : gj_te dA ad (.inr (ci, fs)) = .inr (ci, fs) := by
    show (Sum.inr (ci, fs.map (gj_tv ad)) : va_E) = _
    rw [h8]
  exact gj_grow (ne := .inr (ci, fs)) kk cx ro hK (by rw [e9]; exact hP1) (by rw [e9]; exact hD1) hS1 oC (h9 n) sc ol hl2
theorem gj_objInit {ix x : Nat} (hd : decode md.2.1 pc = .ok (.invokespecial ix, 3)) (h1 : Cond.methodLink md.1.cls ix objectInit ∈ lw_tbl) (h2 : Cond.instanceMethod objectInit ∈ lw_tbl) (h3 : Cond.code objectInit ⟨#[0xb1]⟩ 1 none ∈ lw_tbl) (hs : (st.map fun v => v.category).sum ≤ 100) (kk : gj_G md d K N k w (pc + 3) lc st n C Q) : gj_G md d K N k w pc lc (.ref x :: st) n C Q := by
  intro p l e R s m args below meth c s0 a0 dC dI dA H locs ad ls cx ro hK hP hD hS oC sc ol hl
  exact W.objInit cx.1 cx.2.1 cx.2.2.2.2.2.2.2.2.1 (gj_word cx h1 rfl) (gj_word cx h2 rfl) (gj_word cx h3 rfl) rfl (by rw [cx.2.2.2.2.2.2.2.1]; exact hl.1) rfl hd (by have := ro.1; omega) (by
      have e1 := gj_cats ad st
      show 2 * 0 + ((st.map (gj_tv ad)).map fun v => v.category).sum + 12 ≤ R.locals
      rw [e1]
      have := ro.2.1
      omega)
    (kk p l e R s m args below meth c s0 a0 dC dI dA H locs ad ls cx ro hK hP hD hS oC sc (gj_ol_pop ol) hl)
theorem gj_max {ix : Nat} {x y : Int32} (hd : decode md.2.1 pc = .ok (.invokestatic ix, 3)) (h1 : Cond.methodLink md.1.cls ix Lib.Math.max.name ∈ lw_tbl) (h2 : Cond.static Lib.Math.max.name ∈ lw_tbl) (h3 : Cond.initialized "java/lang/Math" ∈ lw_tbl) (h4 : Cond.code Lib.Math.max.name Lib.Math.max.code 2 (some .int) ∈ lw_tbl) (hs : (st.map fun v => v.category).sum ≤ 100) (hk : k ≤ K) (hw : w ≤ N) (kk : gj_G md d K N k w (pc + 3) lc (.int (if x < y then y else x) :: st) n C Q) : gj_G md d K N k w pc lc (.int y :: .int x :: st) n C Q := by
  intro p l e R s m args below meth c s0 a0 dC dI dA H locs ad ls cx ro hK hP hD hS oC sc ol hl
  exact va_mmax cx.1 cx.2.1 (cx.2.2.2.2.2.2.2.1.trans hl.1.symm) cx.2.2.2.2.2.2.2.2.1 (gj_word cx h1 rfl) (gj_word cx h2 rfl) (gj_word cx h3 rfl) (gj_word cx h4 rfl) (by have := ro.1; omega) (by
      rw [gj_cats ad st]
      have := ro.2.1
      omega) (Nat.le_trans hk ro.2.2.1) (Nat.le_trans hw ro.2.2.2) hd
    (kk p l e R s m args below meth c s0 a0 dC dI dA H locs ad ls cx ro hK hP hD hS oC sc (gj_ol_push (gj_ol_pop (gj_ol_pop ol)) trivial) hl)
theorem gj_maxL {ix : Nat} {x y : Int64} (hd : decode md.2.1 pc = .ok (.invokestatic ix, 3)) (h1 : Cond.methodLink md.1.cls ix Lib.MathLoose.max_long.x ∈ lw_tbl) (h2 : Cond.static Lib.MathLoose.max_long.x ∈ lw_tbl) (h3 : Cond.initialized "java/lang/Math" ∈ lw_tbl) (h4 : Cond.code Lib.MathLoose.max_long.x Lib.MathLoose.max_long.code 4 (some .long) ∈ lw_tbl) (hs : (st.map fun v => v.category).sum ≤ 100) (hk : k ≤ K) (hw : w ≤ N) (kk : gj_G md d K N k w (pc + 3) lc (.long (if y < x then x else y) :: st) n C Q) : gj_G md d K N k w pc lc (.long y :: .long x :: st) n C Q := by
  intro p l e R s m args below meth c s0 a0 dC dI dA H locs ad ls cx ro hK hP hD hS oC sc ol hl
  exact va_mmax_long cx.1 cx.2.1 (cx.2.2.2.2.2.2.2.1.trans hl.1.symm) cx.2.2.2.2.2.2.2.2.1 (gj_word cx h1 rfl) (gj_word cx h2 rfl) (gj_word cx h3 rfl) (gj_word cx h4 rfl) (by have := ro.1; omega) (by
      rw [gj_cats ad st]
      have := ro.2.1
      omega) (Nat.le_trans hk ro.2.2.1) (Nat.le_trans hw ro.2.2.2) hd
    (kk p l e R s m args below meth c s0 a0 dC dI dA H locs ad ls cx ro hK hP hD hS oC sc (gj_ol_push (gj_ol_pop (gj_ol_pop ol)) trivial) hl)
end
