/-! CALLS -/
/-- a method of the tables -/
def gj_mok (md : gj_M) : Prop := plainName md.1.cls = true ∧ (md.1.cls ≠ "java/lang/invoke/MethodHandle" ∧ md.1.cls ≠ "java/lang/invoke/VarHandle") ∧
  ((md.2.2.2.2 = [] ∧ Cond.code md.1 md.2.1 md.2.2.1 md.2.2.2.1 ∈ lw_tbl) ∨ Cond.codeWith md.1 md.2.1 md.2.2.1 md.2.2.2.1 md.2.2.2.2 ∈ lw_tbl)
theorem gj_meth {md me : gj_M} {p : Program} {l : Launch} {s : State} {m : MethodId} {meth : Method} {c : Code} {s0 : State} {a0 : Array Value} (cx : gj_Cx md p l s m meth c s0 a0) (hm : gj_mok me) :
    ∃ (mk : MethodId) (methk : Method) (ck : Code), s.methodNamed? me.1 = some mk ∧ s.vm.method? mk = some methk ∧ methk.code = some ck ∧ ck.code = me.2.1 ∧ ck.maxLocals = me.2.2.1 ∧ methk.sig.returnType = me.2.2.2.1 ∧ methk.locks = false ∧ ck.exceptionTable.toList = tableOf me.2.2.2.2 ∧ parseMethodDescriptor me.1.desc = some methk.sig := by
  rcases hm.2.2 with ⟨h0, h⟩ | h
  · have hc : (Cond.code me.1 me.2.1 me.2.2.1 me.2.2.2.1).before a0 s = true := gj_word cx h rfl
    obtain ⟨mk, hn⟩ := Cond.code_named hc
    obtain ⟨methk, ck, h1, h2, h3, h4, h5, h6, h7, h8⟩ := Cond.code_spec hn hc
    refine ⟨mk, methk, ck, hn, h1, h2, h3, h4, h5, h6, ?_, h8⟩
    rw [h0]
    have h9 : ck.exceptionTable.size = 0 := by simpa [Array.isEmpty] using h7
    exact List.eq_nil_of_length_eq_zero (by simpa using h9)
  · have hc : (Cond.codeWith me.1 me.2.1 me.2.2.1 me.2.2.2.1 me.2.2.2.2).before a0 s = true := gj_word cx h rfl
    obtain ⟨mk, methk, ck, hn, h1, h2, h3, h4, h5, h6, h7, h8⟩ := Cond.codeWith_spec hc
    exact ⟨mk, methk, ck, hn, h1, h2, h3, h4, h6, h7, by rw [← h5]; exact (table_eq _).symm, h8⟩
theorem gj_weaken {tb : Tables} {e : Env} {mid below : List Frame} {a b : State} (h : Steps tb e (mid ++ below) a b) : Steps tb e below a b := by
  obtain ⟨n, h1, h2⟩ := h
  exact ⟨n, h1, fun k hk => (h2 k hk).weaken⟩
section
variable {md me : gj_M} {d K N k w K1 N1 pc : Nat} {lc : List (Nat × Value)} {st rest : List Value} {n : Nat} {C : Nat → va_E} {Q Q1 : gj_R → Prop}
/-- where an exception of class E has come up at the frame's pc -/
def gj_GX (md : gj_M) (d K N k w pc : Nat) (lc : List (Nat × Value)) (E : String) (n : Nat) (C : Nat → va_E) (Q : gj_R → Prop) : Prop :=
  ∀ (p : Program) (l : Launch) (e : Env) (R : Room) (s : State) (m : MethodId) (args : Array Value) (below : List Frame) (meth : Method) (c : Code) (s0 : State) (a0 : Array Value) (dC : Nat → ClassId) (dI : Nat → Nat → Nat) (dA : Nat → ClassId) (H : Heap) (locs : List Loc) (ad : Nat → Nat) (ls : Array Slot) (rs : List Value) (q : Addr) (ce : Cell),
    gj_Cx md p l s m meth c s0 a0 → gj_ro d K N R → va_K (dC, dI) gj_cl (gj_tys dA) s0 →
    va_P (dC, dI) gj_cl (gj_ws dA ad n C) H → va_D (fun q : Nat => s0.heap.size ≤ q) (gj_ws dA ad n C) → va_S (fun q : Nat => s0.heap.size ≤ q) s.heap H locs → gj_oC n C → gj_sc s0 ad (C 0) → (∀ q ∈ lc, gj_ov n q.2) → lv_has ls md.2.2.1 (gj_tl ad lc) →
    H[q]? = some ce → ce.vm = .none → s.vm.findClass E = some ce.cls →
    ∀ T : State, T.heap = H → Stand p l e R s m args below meth c T locs k w → ∃ t, Steps p.tables e below ((T.setTop (F0 m pc ls rs)).pushFrame (.throwing q)) t ∧ gj_E below s s0 dC dI dA ad (C 0) n K N Q t
/-- the callee's walk, seen from the caller's frame g -/
theorem gj_into {p : Program} {l : Launch} {e : Env} {R : Room} {s : State} {m : MethodId} {args : Array Value} {below : List Frame} {meth : Method} {c : Code} {s0 : State} {a0 : Array Value} {dC : Nat → ClassId} {dI : Nat → Nat → Nat} {dA : Nat → ClassId} {H : Heap} {locs : List Loc} {ad : Nat → Nat} {as : List Value} {T : State} {g : JFrame} {ig : Instr} {mk : MethodId} {methk : Method} {ck : Code}
    (X : Stand p l e R s m args below meth c T locs k w) (hT : T.heap = H) (cx : gj_Cx md p l s m meth c s0 a0) (ro : gj_ro (d + 1) K N R) (hK : va_K (dC, dI) gj_cl (gj_tys dA) s0)
    (hP : va_P (dC, dI) gj_cl (gj_ws dA ad n C) H) (hD : va_D (fun q : Nat => s0.heap.size ≤ q) (gj_ws dA ad n C)) (hS : va_S (fun q : Nat => s0.heap.size ≤ q) s.heap H locs) (oC : gj_oC n C) (sc : gj_sc s0 ad (C 0)) (ov : ∀ v ∈ as, gj_ov n v)
    (hg : g.method = m) (hsize : g.locals.size = c.maxLocals) (hdg : decode c.code g.pc = .ok (ig, 3)) (hst : 2 * g.monitorRoom + (g.stack.map fun v => v.category).sum + me.2.2.1 ≤ 49)
    (hplain : plainName me.1.cls = true) (hn : s.methodNamed? me.1 = some mk) (hmk : s.vm.method? mk = some methk) (hck : methk.code = some ck) (hby : ck.code = me.2.1) (hml : ck.maxLocals = me.2.2.1) (hret : methk.sig.returnType = me.2.2.2.1) (hlk : methk.locks = false) (htb : ck.exceptionTable.toList = tableOf me.2.2.2.2)
    (hal : (lg_sl (as.map (gj_tv ad))).length ≤ me.2.2.1) (hk : k + K1 ≤ K) (hw : w + N1 ≤ N) (hG : gj_G me d K1 N1 0 0 0 (lv_args 0 as) [] n C Q1) :
    ∃ t, (∀ acts, Steps p.tables e below (doInvoke e (T.setTop g) acts mk (as.map (gj_tv ad)).toArray).1 t) ∧ gj_E (.java g :: below) (T.calling g mk (as.map (gj_tv ad)).toArray) s0 dC dI dA ad (C 0) n K1 N1 Q1 t := by
  have hTv : s.WarmedH T.vm := X.warmed
  have hpk : T.plainMethod mk := hTv.plainAt (fun k hk => by
    obtain ⟨k', hk', hn'⟩ := className_of_methodNamed hn
    cases Option.some.inj (hk.symm.trans hk')
    rw [hn']
    exact hplain)
  have hmT : T.vm.method? mk = some methk := by rw [hTv.alike.method?]; exact hmk
  obtain ⟨Y, hin⟩ := X.into hg hsize hdg (as.map (gj_tv ad)).toArray (R' := { frames := d + 8, cells := K1, slots := N1, locals := 60 * d + 200 }) hmT hck hlk hpk (by have := ro.1; show d + 8 + 1 ≤ R.frames; omega) (by have := ro.2.1; rw [hml]; show _ + (me.2.2.1 + 11) + (60 * d + 200) ≤ R.locals; omega) (Nat.le_trans hk ro.2.2.1) (Nat.le_trans hw ro.2.2.2)
  obtain ⟨hx, -, htr, hroot, hWs, h0, -⟩ := id cx
  have hh : (T.calling g mk (as.map (gj_tv ad)).toArray).heap = H := hT
  have hvm : (T.calling g mk (as.map (gj_tv ad)).toArray).vm = T.vm := rfl
  have hW2 : s0.WarmedH (T.calling g mk (as.map (gj_tv ad)).toArray).vm := by rw [hvm]; exact State.WarmedH.trans hWs hTv
  have cx2 : gj_Cx me p l (T.calling g mk (as.map (gj_tv ad)).toArray) mk methk ck s0 a0 := by
    refine ⟨hx, hby, htr, hroot, hW2, ?_, hret, hml, ?_, hlk, (name_of_methodNamed hn hmk).1, htb⟩
    · rw [hh]
      exact ⟨Nat.le_trans h0.1 hS.1, fun q hq => by rw [hS.2.1 q (Nat.lt_of_lt_of_le hq h0.1) (Nat.not_le.mpr hq)]; exact h0.2 q hq⟩
    · rw [hvm, hTv.alike.findClass]
      exact findClass_of_methodNamed hn
  have hl := lv_entry (as.map (gj_tv ad)) (n := me.2.2.1) hal
  rw [gj_args] at hl
  have := hG p l e { frames := d + 8, cells := K1, slots := N1, locals := 60 * d + 200 } (T.calling g mk (as.map (gj_tv ad)).toArray) mk (as.map (gj_tv ad)).toArray (.java g :: below) methk ck s0 a0 dC dI dA H [] ad _ cx2 ⟨Nat.le_refl _, Nat.le_refl _, Nat.le_refl _, Nat.le_refl _⟩ hK hP hD (by rw [hh]; exact va_S.rf) oC sc ⟨gj_args_ov as 0 ov, fun v hv => nomatch hv⟩ hl
  obtain ⟨t, h1, h2⟩ := this _ (show ((T.setTop g).pushFrame (.java (entryFrame mk (as.map (gj_tv ad)).toArray ck.maxLocals))).heap = H from hT) Y
  refine ⟨t, fun acts => ?_, h2⟩
  rw [hin acts]
  refine gj_weaken (mid := [.java g]) ?_
  rw [List.map_nil, ← lg_entry_eq] at h1
  rw [hml] at h1 ⊢
  exact h1
/-- how any call goes on: 'inv' is the instruction's own step -/
theorem gj_call {p : Program} {l : Launch} {e : Env} {R : Room} {s : State} {m : MethodId} {args : Array Value} {below : List Frame} {meth : Method} {c : Code} {s0 : State} {a0 : Array Value} {dC : Nat → ClassId} {dI : Nat → Nat → Nat} {dA : Nat → ClassId} {H : Heap} {locs : List Loc} {ad : Nat → Nat} {ls : Array Slot} {as : List Value} {ig : Instr} {mk : MethodId} {methk : Method} {ck : Code} {stk : List Value}
    (cx : gj_Cx md p l s m meth c s0 a0) (ro : gj_ro (d + 1) K N R) (hK : va_K (dC, dI) gj_cl (gj_tys dA) s0)
    (hP : va_P (dC, dI) gj_cl (gj_ws dA ad n C) H) (hD : va_D (fun q : Nat => s0.heap.size ≤ q) (gj_ws dA ad n C)) (hS : va_S (fun q : Nat => s0.heap.size ≤ q) s.heap H locs) (oC : gj_oC n C) (sc : gj_sc s0 ad (C 0)) (ov : ∀ v ∈ as, gj_ov n v) (ol : gj_ol n lc rest) (hl : lv_has ls md.2.2.1 (gj_tl ad lc))
    (hdg : decode md.2.1 pc = .ok (ig, 3)) (hst : (rest.map fun v => v.category).sum + me.2.2.1 ≤ 49)
    (hplain : plainName me.1.cls = true) (hn : s.methodNamed? me.1 = some mk) (hmk : s.vm.method? mk = some methk) (hck : methk.code = some ck) (hby : ck.code = me.2.1) (hml : ck.maxLocals = me.2.2.1) (hret : methk.sig.returnType = me.2.2.2.1) (hlk : methk.locks = false) (htb : ck.exceptionTable.toList = tableOf me.2.2.2.2)
    (hal : (lg_sl (as.map (gj_tv ad))).length ≤ me.2.2.1) (hk : k + K1 ≤ K) (hw : w + N1 ≤ N) (hG : gj_G me d K1 N1 0 0 0 (lv_args 0 as) [] n C Q1)
    (inv : ∀ T : State, T.heap = H → Stand p l e R s m args below meth c T locs k w → ∃ vm₁, Stand p l e R s m args below meth c (T.setVm vm₁) locs k w ∧ ∀ target, (∀ acts, Steps p.tables e below (doInvoke e ((T.setVm vm₁).setTop (F0 m pc ls (rest.map (gj_tv ad)))) acts mk (as.map (gj_tv ad)).toArray).1 target) → Steps p.tables e below (T.setTop (F0 m pc ls stk)) target)
    (kr : ∀ (v : Option Value) (n' : Nat) (C' : Nat → va_E), n ≤ n' → Q1 (.inl v, n', C') → gj_G md (d + 1) K N (k + K1) (w + N1) (pc + 3) lc (v.toList ++ rest) n' C' Q)
    (kx : ∀ (E : String) (n' : Nat) (C' : Nat → va_E), n ≤ n' → Q1 (.inr E, n', C') → gj_GX md (d + 1) K N (k + K1) (w + N1) pc lc E n' C' Q) :
    W p l e R s m args below meth c H locs k w (gj_E below s s0 dC dI dA ad (C 0) n K N Q) (F0 m pc ls stk) := by
  intro T hT X
  obtain ⟨vm₁, X₁, hstep⟩ := inv T hT X
  have hdc : decode c.code pc = .ok (ig, 3) := by rw [cx.2.1]; exact hdg
  obtain ⟨t, hsteps, o, L, rv, n', C', ad', h1, h2, h3, h4, h5, h6, h7, h8, h9, h10, h11, h12, h13, h14, h15⟩ := gj_into (g := F0 m pc ls (rest.map (gj_tv ad))) X₁ hT cx ro hK hP hD hS oC sc ov rfl (by rw [cx.2.2.2.2.2.2.2.1]; exact hl.1) hdc (by
      show 2 * 0 + ((rest.map (gj_tv ad)).map fun v => v.category).sum + me.2.2.1 ≤ 49
      rw [gj_cats]
      omega) hplain hn hmk hck hby hml hret hlk htb hal hk hw hG
  have hvm1 : s.WarmedH (T.setVm vm₁).vm := X₁.warmed
  have hal' : ∀ x, x ≤ n → ad' x = ad x := h11
  have hls : lv_has ls md.2.2.1 (gj_tl ad' lc) := by rw [gj_tl_eq hal' ol.1]; exact hl
  have hsc : gj_sc s0 ad' (C' 0) := by
    rw [h12]
    obtain ⟨L0, xs, q1, q2, q3⟩ := sc
    have q4 := hal' 0 (Nat.zero_le n)
    exact ⟨L0, xs, q1, by rw [q4]; exact q2, by rw [q4]; exact q3⟩
  have hSt : ∀ T' : State, T'.heap = t.heap → va_S (fun q : Nat => s0.heap.size ≤ q) s.heap T'.heap (locs ++ L) := by
    intro T' hT'
    have hz : ∀ q : Nat, q < s.heap.size → ¬ s0.heap.size ≤ q → t.heap[q]? = s.heap[q]? := fun q hq hn => by
      have hq0 : q < s0.heap.size := Nat.not_le.mp hn
      rw [h6.2 q hq0, cx.2.2.2.2.2.1.2 q hq0]
    have hsz : s.heap.size ≤ t.heap.size := by
      have e1 : (T.setVm vm₁).heap.size ≤ t.heap.size := h4.2.1
      have e2 : (T.setVm vm₁).heap = H := hT
      rw [e2] at e1
      exact Nat.le_trans hS.1 e1
    rw [hT']
    exact ⟨hsz, hz, fun z hz => (List.mem_append.mp hz).elim (hS.2.2 z) (h5 z)⟩
  rcases rv with v | E
  · have ho : o = .returned (v.map (gj_tv ad')) := h8
    subst ho
    obtain ⟨T', X', hW', hB', ht⟩ := X₁.outOf (g := F0 m pc ls (rest.map (gj_tv ad))) rfl hdc h2 h3 h4
    have hT' : T'.heap = t.heap := by rw [ht]; rfl
    have hk2 := kr v n' C' h10 h7
    have ol2 : gj_ol n' lc (v.toList ++ rest) := ⟨fun q hq => gj_ov_le h10 (ol.1 q hq), fun u hu => by
      rcases List.mem_append.mp hu with h | h
      · cases v with
        | none => cases h
        | some v => rw [List.mem_singleton.mp h]; exact h9
      · exact gj_ov_le h10 (ol.2 u h)⟩
    obtain ⟨t2, a1, b1⟩ := hk2 p l e R s m args below meth c s0 a0 dC dI dA T'.heap (locs ++ L) ad' ls cx ro hK (by rw [hT']; exact h13) h14 (hSt T' hT') h15 hsc ol2 hls T' rfl X'
    refine ⟨t2, hstep _ (fun acts => (hsteps acts).trans ?_), gj_E_mono h10 hal' h12 t2 b1⟩
    rw [ht]
    have e5 : ((v.toList ++ rest).map (gj_tv ad')) = (v.map (gj_tv ad')).toList ++ rest.map (gj_tv ad) := by
      rw [List.map_append, gj_ts_eq hal' ol.2]
      cases v <;> rfl
    rw [e5] at a1
    exact a1
  · obtain ⟨q, ce, ho, hce, hcv, hcl⟩ : ∃ (q : Addr) (ce : Cell), o = .threw q ∧ t.heap[q]? = some ce ∧ ce.vm = .none ∧ ((T.setVm vm₁).calling (F0 m pc ls (rest.map (gj_tv ad))) mk (as.map (gj_tv ad)).toArray).vm.findClass E = some ce.cls := h8
    subst ho
    obtain ⟨T', X', hW', hB', ht⟩ := X₁.outOfThrown (g := F0 m pc ls (rest.map (gj_tv ad))) rfl h2 h3 h4
    have hT' : T'.heap = t.heap := by rw [ht, throwing_heap]
    have hcl2 : s.vm.findClass E = some ce.cls := by
      have e7 : (T.setVm vm₁).vm.findClass E = some ce.cls := hcl
      rw [hvm1.alike.findClass] at e7
      exact e7
    obtain ⟨t2, a1, b1⟩ := kx E n' C' h10 h7 p l e R s m args below meth c s0 a0 dC dI dA T'.heap (locs ++ L) ad' ls (rest.map (gj_tv ad)) q ce cx ro hK (by rw [hT']; exact h13) h14 (hSt T' hT') h15 hsc (fun q hq => gj_ov_le h10 (ol.1 q hq)) hls (by rw [hT']; exact hce) hcv hcl2 T' rfl X'
    refine ⟨t2, hstep _ (fun acts => (hsteps acts).trans ?_), gj_E_mono h10 hal' h12 t2 b1⟩
    rw [ht]
    exact a1
end
/-! THE INVOKE INSTRUCTIONS -/
section
variable {md me : gj_M} {d K N k w K1 N1 pc ix : Nat} {lc : List (Nat × Value)} {rest as : List Value} {n : Nat} {C : Nat → va_E} {Q Q1 : gj_R → Prop}
theorem gj_sl (ad : Nat → Nat) : ∀ as : List Value, (lg_sl (as.map (gj_tv ad))).length = (lg_sl as).length
  | [] => rfl
  | v :: as => by
    have h := gj_sl ad as
    cases v <;> simp_all [lg_sl, gj_tv, Value.category]
/-- what a stack holds is what its parts hold -/
theorem gj_ol_app {as : List Value} (h : gj_ol n lc (as.reverse ++ rest)) : (∀ v ∈ as, gj_ov n v) ∧ gj_ol n lc rest :=
  ⟨fun v hv => h.2 v (List.mem_append_left _ (List.mem_reverse.mpr hv)), h.1, fun v hv => h.2 v (List.mem_append_right _ hv)⟩
theorem gj_rev (ad : Nat → Nat) (as rest : List Value) : (as.reverse ++ rest).map (gj_tv ad) = (as.map (gj_tv ad)).reverse ++ rest.map (gj_tv ad) := by
  rw [List.map_append, List.map_reverse]
theorem gj_plen {x : MethodName} {sig : MethodDescriptor} {q : Nat} (h : (parseMethodDescriptor x.desc).map (fun d => d.parameters.length) = some q) (hs : parseMethodDescriptor x.desc = some sig) : sig.parameters.length = q := by
  rw [hs] at h
  exact Option.some.inj h
theorem gj_callS (hd : decode md.2.1 pc = .ok (.invokestatic ix, 3)) (hm : gj_mok me) (h1 : Cond.methodLink md.1.cls ix me.1 ∈ lw_tbl) (h2 : Cond.static me.1 ∈ lw_tbl) (h3 : Cond.initialized me.1.cls ∈ lw_tbl) (hlen : (parseMethodDescriptor me.1.desc).map (fun d => d.parameters.length) = some as.length) (hal : (lg_sl as).length ≤ me.2.2.1) (hst : (rest.map fun v => v.category).sum + me.2.2.1 ≤ 49) (hk : k + K1 ≤ K) (hw : w + N1 ≤ N) (hG : gj_G me d K1 N1 0 0 0 (lv_args 0 as) [] n C Q1)
    (kx : ∀ (E : String) (n' : Nat) (C' : Nat → va_E), n ≤ n' → Q1 (.inr E, n', C') → gj_GX md (d + 1) K N (k + K1) (w + N1) pc lc E n' C' Q)
    (kr : ∀ (v : Option Value) (n' : Nat) (C' : Nat → va_E), n ≤ n' → Q1 (.inl v, n', C') → gj_G md (d + 1) K N (k + K1) (w + N1) (pc + 3) lc (v.toList ++ rest) n' C' Q) :
    gj_G md (d + 1) K N k w pc lc (as.reverse ++ rest) n C Q := by
  intro p l e R s m args below meth c s0 a0 dC dI dA H locs ad ls cx ro hK hP hD hS oC sc ol hl
  obtain ⟨mk, methk, ck, hn, hmk, hck, hby, hml, hret, hlk, htb, hsig⟩ := gj_meth cx hm
  obtain ⟨kP, hkP, -⟩ := className_of_methodNamed hn
  have hst2 : (Cond.static me.1).before args s = true := gj_word cx h2 rfl
  have hin2 : (Cond.initialized me.1.cls).before args s = true := gj_word cx h3 rfl
  have hstatic : methk.isStatic = true := Cond.static_spec hn hmk hst2
  have hinit : kP.init = .initialized := Cond.initialized_spec (findClass_of_methodNamed hn) hkP hin2
  obtain ⟨ov, ol2⟩ := gj_ol_app ol
  refine gj_call cx ro hK hP hD hS oC sc ov ol2 hl hd hst hm.1 hn hmk hck hby hml hret hlk htb (by rw [gj_sl]; exact hal) hk hw hG ?_ kr kx
  intro T hT X
  obtain ⟨vm₁, X₁, st⟩ := X.invokestatic cx.1 cx.2.2.2.2.2.2.2.2.1 (gj_word cx h1 rfl) hn hmk hstatic hkP hinit hm.2.1 (g := F0 m pc ls ((as.reverse ++ rest).map (gj_tv ad))) rfl (argsL := as.map (gj_tv ad)) (rest := rest.map (gj_tv ad)) (by rw [List.length_map]; exact (gj_plen hlen hsig).symm) (gj_rev ad as rest) (by rw [cx.2.1]; exact hd)
  exact ⟨vm₁, X₁, st⟩
theorem gj_callSN {host : String} (hd : decode md.2.1 pc = .ok (.invokestatic ix, 3)) (hm : gj_mok me) (h1 : Cond.methodLinkNest md.1.cls ix me.1 host ∈ lw_tbl) (h2 : Cond.static me.1 ∈ lw_tbl) (h3 : Cond.initialized me.1.cls ∈ lw_tbl) (hlen : (parseMethodDescriptor me.1.desc).map (fun d => d.parameters.length) = some as.length) (hal : (lg_sl as).length ≤ me.2.2.1) (hst : (rest.map fun v => v.category).sum + me.2.2.1 ≤ 49) (hk : k + K1 ≤ K) (hw : w + N1 ≤ N) (hG : gj_G me d K1 N1 0 0 0 (lv_args 0 as) [] n C Q1)
    (kx : ∀ (E : String) (n' : Nat) (C' : Nat → va_E), n ≤ n' → Q1 (.inr E, n', C') → gj_GX md (d + 1) K N (k + K1) (w + N1) pc lc E n' C' Q)
    (kr : ∀ (v : Option Value) (n' : Nat) (C' : Nat → va_E), n ≤ n' → Q1 (.inl v, n', C') → gj_G md (d + 1) K N (k + K1) (w + N1) (pc + 3) lc (v.toList ++ rest) n' C' Q) :
    gj_G md (d + 1) K N k w pc lc (as.reverse ++ rest) n C Q := by
  intro p l e R s m args below meth c s0 a0 dC dI dA H locs ad ls cx ro hK hP hD hS oC sc ol hl
  obtain ⟨mk, methk, ck, hn, hmk, hck, hby, hml, hret, hlk, htb, hsig⟩ := gj_meth cx hm
  obtain ⟨kP, hkP, -⟩ := className_of_methodNamed hn
  have hst2 : (Cond.static me.1).before args s = true := gj_word cx h2 rfl
  have hin2 : (Cond.initialized me.1.cls).before args s = true := gj_word cx h3 rfl
  have hstatic : methk.isStatic = true := Cond.static_spec hn hmk hst2
  have hinit : kP.init = .initialized := Cond.initialized_spec (findClass_of_methodNamed hn) hkP hin2
  have hlink : (Cond.methodLinkNest md.1.cls ix me.1 host).before args s = true := va_Nw.use rfl (va_Nw.warmM cx.2.2.2.2.1 (va_Nw.of rfl (cx.2.2.2.1.1 _ h1)))
  obtain ⟨ov, ol2⟩ := gj_ol_app ol
  refine gj_call cx ro hK hP hD hS oC sc ov ol2 hl hd hst hm.1 hn hmk hck hby hml hret hlk htb (by rw [gj_sl]; exact hal) hk hw hG ?_ kr kx
  intro T hT X
  obtain ⟨vm₁, X₁, st⟩ := X.invokestaticNest cx.1 cx.2.2.2.2.2.2.2.2.1 hlink hn hmk hstatic hkP hinit hm.2.1 (g := F0 m pc ls ((as.reverse ++ rest).map (gj_tv ad))) rfl (argsL := as.map (gj_tv ad)) (rest := rest.map (gj_tv ad)) (by rw [List.length_map]; exact (gj_plen hlen hsig).symm) (gj_rev ad as rest) (by rw [cx.2.1]; exact hd)
  exact ⟨vm₁, X₁, st⟩
theorem gj_callV {x ci N0 : Nat} {T0 : u_T} {fs : List Value} (hd : decode md.2.1 pc = .ok (.invokevirtual ix, 3)) (hm : gj_mok me) (h1 : Cond.methodLink md.1.cls ix me.1 ∈ lw_tbl) (h2 : Cond.instanceMethod me.1 ∈ lw_tbl) (h3 : Cond.selects me.1.cls me.1 me.1 ∈ lw_tbl) (hc : C x = .inr (ci, fs)) (hcl : gj_cl[ci]? = some (me.1.cls, T0, N0)) (hlen : (parseMethodDescriptor me.1.desc).map (fun d => d.parameters.length) = some as.length) (hal : (lg_sl (.ref x :: as)).length ≤ me.2.2.1) (hst : (rest.map fun v => v.category).sum + me.2.2.1 ≤ 49) (hk : k + K1 ≤ K) (hw : w + N1 ≤ N) (hG : gj_G me d K1 N1 0 0 0 (lv_args 0 (.ref x :: as)) [] n C Q1)
    (kx : ∀ (E : String) (n' : Nat) (C' : Nat → va_E), n ≤ n' → Q1 (.inr E, n', C') → gj_GX md (d + 1) K N (k + K1) (w + N1) pc lc E n' C' Q)
    (kr : ∀ (v : Option Value) (n' : Nat) (C' : Nat → va_E), n ≤ n' → Q1 (.inl v, n', C') → gj_G md (d + 1) K N (k + K1) (w + N1) (pc + 3) lc (v.toList ++ rest) n' C' Q) :
    gj_G md (d + 1) K N k w pc lc (as.reverse ++ .ref x :: rest) n C Q := by
  intro p l e R s m args below meth c s0 a0 dC dI dA H locs ad ls cx ro hK hP hD hS oC sc ol hl
  obtain ⟨mk, methk, ck, hn, hmk, hck, hby, hml, hret, hlk, htb, hsig⟩ := gj_meth cx hm
  obtain ⟨ov, ol1⟩ := gj_ol_app ol
  have hxn : x ≤ n := ol1.2 (.ref x) List.mem_cons_self
  have hsel : (Cond.selects me.1.cls me.1 me.1).before args s = true := gj_word cx h3 rfl
  have hins : (Cond.instanceMethod me.1).before args s = true := gj_word cx h2 rfl
  obtain ⟨mk2, methM, hn2, hmM, hstM, habM⟩ := Cond.instanceMethod_spec hins
  cases Option.some.inj (hn.symm.trans hn2)
  cases Option.some.inj (hmk.symm.trans hmM)
  obtain ⟨cellB, hcB, hoB, hclB⟩ := va_recv (va_K.moved cx.2.2.2.2.1.alike hK) hP hcl (gj_wsi (gj_ne0i sc hc) hxn hc)
  obtain ⟨c2, r2, m2, q1, q2, q3, q4, kP, hkP, hkPi⟩ := Cond.selects_spec hsel
  have hclB : s.vm.findClass me.1.cls = some cellB.cls := hclB
  cases hclB.symm.trans q1
  cases (State.methodFound?_of_named hn hm.2.1).symm.trans q2
  cases hn.symm.trans q3
  refine gj_call (as := .ref x :: as) cx ro hK hP hD hS oC sc (fun v hv => (List.mem_cons.mp hv).elim (fun e => by rw [e]; exact hxn) (ov v)) (gj_ol_pop ol1) hl hd hst hm.1 hn hmk hck hby hml hret hlk htb (by rw [gj_sl]; exact hal) hk hw hG ?_ kr kx
  intro T hT X
  have hselP : selectMethod e.platform s.vm cellB.cls mk = .method mk := by rw [Launch.admits_selectMethod X.admits]; exact q4
  obtain ⟨vm₁, X₁, st⟩ := X.invokevirtual cx.1 cx.2.2.2.2.2.2.2.2.1 (gj_word cx h1 rfl) hn hmk hstM hkP hkPi hm.2.1 (a := ad x) (cell := cellB) (by rw [hT]; exact hcB) (fun z h => by rw [h] at hoB; cases hoB) hselP hmk habM hkP hkPi (g := F0 m pc ls ((as.reverse ++ .ref x :: rest).map (gj_tv ad))) rfl (argsL := as.map (gj_tv ad)) (rest := rest.map (gj_tv ad)) (by rw [List.length_map]; exact (gj_plen hlen hsig).symm) (gj_rev ad as (.ref x :: rest)) (by rw [cx.2.1]; exact hd)
  exact ⟨vm₁, X₁, st⟩
theorem gj_callI {x : Nat} (hd : decode md.2.1 pc = .ok (.invokespecial ix, 3)) (hm : gj_mok me) (hnm : me.1.name = "<init>") (hrt : me.2.2.2.1 = none) (hhd : me.2.2.2.2 = []) (h0 : Cond.code me.1 me.2.1 me.2.2.1 none ∈ lw_tbl) (h1 : Cond.methodLink md.1.cls ix me.1 ∈ lw_tbl) (h2 : Cond.instanceMethod me.1 ∈ lw_tbl) (hlen : (parseMethodDescriptor me.1.desc).map (fun d => d.parameters.length) = some as.length) (hal : (lg_sl (.ref x :: as)).length ≤ me.2.2.1) (hst : (rest.map fun v => v.category).sum + me.2.2.1 ≤ 49) (hk : k + K1 ≤ K) (hw : w + N1 ≤ N) (hG : gj_G me d K1 N1 0 0 0 (lv_args 0 (.ref x :: as)) [] n C Q1)
    (kx : ∀ (E : String) (n' : Nat) (C' : Nat → va_E), n ≤ n' → Q1 (.inr E, n', C') → gj_GX md (d + 1) K N (k + K1) (w + N1) pc lc E n' C' Q)
    (kr : ∀ (v : Option Value) (n' : Nat) (C' : Nat → va_E), n ≤ n' → Q1 (.inl v, n', C') → gj_G md (d + 1) K N (k + K1) (w + N1) (pc + 3) lc (v.toList ++ rest) n' C' Q) :
    gj_G md (d + 1) K N k w pc lc (as.reverse ++ .ref x :: rest) n C Q := by
  intro p l e R s m args below meth c s0 a0 dC dI dA H locs ad ls cx ro hK hP hD hS oC sc ol hl
  obtain ⟨mk, methk, ck, hn, hmk, hck, hby, hml, hret, hlk, htb, hsig⟩ := gj_meth cx hm
  obtain ⟨ov, ol1⟩ := gj_ol_app ol
  have hxn : x ≤ n := ol1.2 (.ref x) List.mem_cons_self
  refine gj_call (as := .ref x :: as) cx ro hK hP hD hS oC sc (fun v hv => (List.mem_cons.mp hv).elim (fun e => by rw [e]; exact hxn) (ov v)) (gj_ol_pop ol1) hl hd hst hm.1 hn hmk hck hby hml hret hlk htb (by rw [gj_sl]; exact hal) hk hw hG ?_ kr kx
  intro T hT X
  have hpl : e.platform.magicAccessors = ({} : Platform).magicAccessors := by rw [X.admits.platform]
  obtain ⟨mk2, methM, cM, kP, vm₁, hn2, -, -, -, -, -, -, -, hW₁, st⟩ := Steps.initColdArgs (e := e) X.here cx.1 X.warmed hpl cx.2.2.2.2.2.2.2.2.1 hnm hm.2.1 (gj_word cx h1 rfl) (gj_word cx h2 rfl) (gj_word (args := args) cx h0 rfl) (f := F0 m pc ls ((as.reverse ++ .ref x :: rest).map (gj_tv ad))) rfl (a := ad x) (argsL := as.map (gj_tv ad)) (rest := rest.map (gj_tv ad)) (fun sig hs => by rw [List.length_map]; exact (gj_plen hlen hs).symm) (gj_rev ad as (.ref x :: rest)) (by rw [cx.2.1]; exact hd)
  cases Option.some.inj (hn.symm.trans hn2)
  exact ⟨vm₁, X.noted hW₁, st⟩
theorem gj_callIN {x : Nat} {host : String} (hd : decode md.2.1 pc = .ok (.invokespecial ix, 3)) (hm : gj_mok me) (hnm : me.1.name = "<init>") (h0 : Cond.code me.1 me.2.1 me.2.2.1 none ∈ lw_tbl) (h1 : Cond.methodLinkNest md.1.cls ix me.1 host ∈ lw_tbl) (h2 : Cond.instanceMethod me.1 ∈ lw_tbl) (hlen : (parseMethodDescriptor me.1.desc).map (fun d => d.parameters.length) = some as.length) (hal : (lg_sl (.ref x :: as)).length ≤ me.2.2.1) (hst : (rest.map fun v => v.category).sum + me.2.2.1 ≤ 49) (hk : k + K1 ≤ K) (hw : w + N1 ≤ N) (hG : gj_G me d K1 N1 0 0 0 (lv_args 0 (.ref x :: as)) [] n C Q1)
    (kx : ∀ (E : String) (n' : Nat) (C' : Nat → va_E), n ≤ n' → Q1 (.inr E, n', C') → gj_GX md (d + 1) K N (k + K1) (w + N1) pc lc E n' C' Q)
    (kr : ∀ (v : Option Value) (n' : Nat) (C' : Nat → va_E), n ≤ n' → Q1 (.inl v, n', C') → gj_G md (d + 1) K N (k + K1) (w + N1) (pc + 3) lc (v.toList ++ rest) n' C' Q) :
    gj_G md (d + 1) K N k w pc lc (as.reverse ++ .ref x :: rest) n C Q := by
  intro p l e R s m args below meth c s0 a0 dC dI dA H locs ad ls cx ro hK hP hD hS oC sc ol hl
  obtain ⟨mk, methk, ck, hn, hmk, hck, hby, hml, hret, hlk, htb, hsig⟩ := gj_meth cx hm
  obtain ⟨ov, ol1⟩ := gj_ol_app ol
  have hxn : x ≤ n := ol1.2 (.ref x) List.mem_cons_self
  have hlink : (Cond.methodLinkNest md.1.cls ix me.1 host).before args s = true := va_Nw.use rfl (va_Nw.warmM cx.2.2.2.2.1 (va_Nw.of rfl (cx.2.2.2.1.1 _ h1)))
  refine gj_call (as := .ref x :: as) cx ro hK hP hD hS oC sc (fun v hv => (List.mem_cons.mp hv).elim (fun e => by rw [e]; exact hxn) (ov v)) (gj_ol_pop ol1) hl hd hst hm.1 hn hmk hck hby hml hret hlk htb (by rw [gj_sl]; exact hal) hk hw hG ?_ kr kx
  intro T hT X
  have hpl : e.platform.magicAccessors = ({} : Platform).magicAccessors := by rw [X.admits.platform]
  obtain ⟨mk2, methM, cM, kP, vm₁, hn2, -, -, -, -, -, -, -, hW₁, st⟩ := Steps.initColdArgsNest (e := e) X.here cx.1 X.warmed hpl cx.2.2.2.2.2.2.2.2.1 hnm hm.2.1 hlink (gj_word cx h2 rfl) (gj_word (args := args) cx h0 rfl) (f := F0 m pc ls ((as.reverse ++ .ref x :: rest).map (gj_tv ad))) rfl (a := ad x) (argsL := as.map (gj_tv ad)) (rest := rest.map (gj_tv ad)) (fun sig hs => by rw [List.length_map]; exact (gj_plen hlen hs).symm) (gj_rev ad as (.ref x :: rest)) (by rw [cx.2.1]; exact hd)
  cases Option.some.inj (hn.symm.trans hn2)
  exact ⟨vm₁, X.noted hW₁, st⟩
end
