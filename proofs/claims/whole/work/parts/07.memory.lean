/-! MEMORY: fields, arrays, making -/
theorem gj_ne0i {s0 : State} {ad : Nat → Nat} {C : Nat → va_E} {x ci : Nat} {fs : List Value} (sc : gj_sc s0 ad (C 0)) (hc : C x = .inr (ci, fs)) : x ≠ 0 := by
  rintro rfl
  obtain ⟨L, xs, h, -⟩ := sc
  rw [hc] at h
  cases h
theorem gj_ne0a {s0 : State} {ad : Nat → Nat} {C : Nat → va_E} {x k len : Nat} {a : gj_X} {ty : FieldType} (sc : gj_sc s0 ad (C 0)) (hc : C x = .inl (k, len, a)) (ha : gj_at[k]? = some ty) : x ≠ 0 := by
  rintro rfl
  obtain ⟨L, xs, h, -⟩ := sc
  rw [hc] at h
  cases h
  revert ha
  exact fun h => by have := (List.getElem?_eq_some_iff.mp h).1; revert this; decide
theorem gj_up0 {C : Nat → va_E} {x : Nat} {e : va_E} (h : x ≠ 0) : va_up C x e 0 = C 0 := va_up_ne C e (Ne.symm h)
theorem gj_wsi {dA : Nat → ClassId} {ad : Nat → Nat} {n x ci : Nat} {C : Nat → va_E} {fs : List Value} (h0 : x ≠ 0) (h : x ≤ n) (hc : C x = .inr (ci, fs)) : (gj_ws dA ad n C)[x - 1]? = some (ad x, .inr (ci, fs.map (gj_tv ad))) := by
  rw [gj_ws_at h0 h, hc]
  rfl
theorem gj_wsa {dA : Nat → ClassId} {ad : Nat → Nat} {n x k len : Nat} {C : Nat → va_E} {a : gj_X} (h0 : x ≠ 0) (h : x ≤ n) (hc : C x = .inl (k, len, a)) : (gj_ws dA ad n C)[x - 1]? = some (ad x, .inl (dA k, len, gj_tx ad a)) := by
  rw [gj_ws_at h0 h, hc]
  rfl
/-- a field by its entry in the pool of own: class ci, place kf -/
def gj_fok (own : String) (ix ci kf : Nat) : Prop := ∃ (C0 : String) (T : u_T) (N0 : Nat), gj_cl[ci]? = some (C0, T, N0) ∧ kf < N0 ∧ Cond.fieldLink own ix (T kf).1 (T kf).2.1 (T kf).2.2.1 ∈ lw_tbl ∧ ∀ w ∈ u_ws C0 T N0, w ∈ lw_tbl
/-- .. and that it may be written -/
def gj_pok (own : String) (ix ci kf : Nat) (ty : FieldType) (fin : Bool) : Prop := ∃ (C0 : String) (T : u_T) (N0 : Nat) (t0 : Nat → FieldType), gj_cl[ci]? = some (C0, T, N0) ∧ kf < N0 ∧ Cond.fieldLink own ix (T kf).1 (T kf).2.1 (T kf).2.2.1 ∈ lw_tbl ∧ (∀ w ∈ u_ws C0 T N0, w ∈ lw_tbl) ∧
  (∀ k, k < N0 → parseFieldDescriptor (T k).2.2.1 = some (t0 k)) ∧ (∀ a, a < N0 → ∀ b, b < N0 → a ≠ b → (T a).2.1 ≠ (T b).2.1) ∧ parseFieldDescriptor (T kf).2.2.1 = some ty ∧ (T kf).2.2.2 = fin ∧ (fin = true → (T kf).1 = own)
theorem gj_lays {md : gj_M} {p : Program} {l : Launch} {s : State} {m : MethodId} {meth : Method} {c : Code} {s0 : State} {a0 args : Array Value} (cx : gj_Cx md p l s m meth c s0 a0) {C0 : String} {T : u_T} {N0 : Nat} (h : ∀ w ∈ u_ws C0 T N0, w ∈ lw_tbl) : ∀ w ∈ u_ws C0 T N0, w.before args s = true := by
  intro w hw
  refine gj_word cx (h w hw) ?_
  obtain ⟨k, -, rfl⟩ := List.mem_map.mp hw
  unfold u_lay
  split <;> rfl
section
variable {md : gj_M} {d K N k w pc : Nat} {lc : List (Nat × Value)} {st : List Value} {n : Nat} {C : Nat → va_E} {Q : gj_R → Prop}
theorem gj_get {ix ci kf x : Nat} {fs : List Value} {v : Value} (hd : decode md.2.1 pc = .ok (.getfield ix, 3)) (hf : gj_fok md.1.cls ix ci kf) (hc : C x = .inr (ci, fs)) (hv : fs[kf]? = some v) (kk : gj_G md d K N k w (pc + 3) lc (v :: st) n C Q) : gj_G md d K N k w pc lc (.ref x :: st) n C Q := by
  intro p l e R s m args below meth c s0 a0 dC dI dA H locs ad ls cx ro hK hP hD hS oC sc ol hl
  obtain ⟨C0, T, N0, h1, h2, h3, h4⟩ := hf
  have hx0 := gj_ne0i sc hc
  have hxn : x ≤ n := ol.2 (.ref x) List.mem_cons_self
  have hvn : gj_ov n v := by
    have := oC x hxn
    rw [hc] at this
    exact this v (List.mem_of_getElem? hv)
  exact va_get (D := (dC, dI)) (cl := gj_cl) cx.1 cx.2.1 (gj_lays cx h4) (fun _ h => h) cx.2.2.2.2.2.2.2.2.1 (va_K.moved cx.2.2.2.2.1.alike hK) hP (x - 1) (gj_wsi hx0 hxn hc) h1 kf h2 (gj_word cx h3 rfl) (fun _ h => h) (v := gj_tv ad v) (by rw [List.getElem?_map, hv]; rfl) hd
    (kk p l e R s m args below meth c s0 a0 dC dI dA H locs ad ls cx ro hK hP hD hS oC sc (gj_ol_push (gj_ol_pop ol) hvn) hl)
theorem gj_put {ix ci kf x : Nat} {fs : List Value} {v : Value} {ty : FieldType} (hd : decode md.2.1 pc = .ok (.putfield ix, 3)) (hf : gj_pok md.1.cls ix ci kf ty false) (hc : C x = .inr (ci, fs)) (hv : kf < fs.length) (hn : ∀ ad, narrow ty (gj_tv ad v) = gj_tv ad v) (hfit : ∀ ad, fits ty (gj_tv ad v) = true) (kk : gj_G md d K N k w (pc + 3) lc st n (va_up C x (.inr (ci, fs.set kf v))) Q) : gj_G md d K N k w pc lc (v :: .ref x :: st) n C Q := by
  intro p l e R s m args below meth c s0 a0 dC dI dA H locs ad ls cx ro hK hP hD hS oC sc ol hl
  obtain ⟨C0, T, N0, t0, h1, h2, h3, h4, h5, h6, h7, h8, -⟩ := hf
  have hx0 := gj_ne0i sc hc
  have hxn : x ≤ n := ol.2 (.ref x) (List.mem_cons_of_mem _ List.mem_cons_self)
  have he : gj_oe n (.inr (ci, fs.set kf v)) := by
    have := oC x hxn
    rw [hc] at this
    intro u hu
    rcases List.mem_or_eq_of_mem_set hu with h | h
    · exact this u h
    · rw [h]; exact ol.2 v List.mem_cons_self
  have e9 : (gj_ws dA ad n C).set (x - 1) (ad x, .inr (ci, (fs.map (gj_tv ad)).set kf (gj_tv ad v))) = gj_ws dA ad n (va_up C x (.inr (ci, fs.set kf v))) := by
    rw [← gj_ws_set _ hx0, ← List.map_set]
    rfl
  refine va_put (D := (dC, dI)) (cl := gj_cl) cx.1 cx.2.1 (gj_lays cx h4) (fun _ h => h) t0 h5 h6 cx.2.2.2.2.2.2.2.2.1 (va_K.moved cx.2.2.2.2.1.alike hK) hP hD hS (x - 1) (gj_wsi hx0 hxn hc) h1 kf h2 (gj_word cx h3 rfl) (fun _ h => h) h8 (v := gj_tv ad v) h7 (hn ad) (hfit ad) (by rw [List.length_map]; exact hv) hd (fun H1 locs1 hP1 hD1 hS1 => ?_)
  rw [e9] at hP1 hD1
  have := kk p l e R s m args below meth c s0 a0 dC dI dA H1 locs1 ad ls cx ro hK hP1 hD1 hS1 (gj_oC_up oC he) (by rw [gj_up0 hx0]; exact sc) (gj_ol_pop (gj_ol_pop ol)) hl
  rw [gj_up0 hx0] at this
  exact this
theorem gj_putF {ix ci kf x : Nat} {fs : List Value} {v : Value} {ty : FieldType} (hd : decode md.2.1 pc = .ok (.putfield ix, 3)) (hf : gj_pok md.1.cls ix ci kf ty true) (hin : md.1.name = "<init>") (hc : C x = .inr (ci, fs)) (hv : kf < fs.length) (hn : ∀ ad, narrow ty (gj_tv ad v) = gj_tv ad v) (hfit : ∀ ad, fits ty (gj_tv ad v) = true) (kk : gj_G md d K N k w (pc + 3) lc st n (va_up C x (.inr (ci, fs.set kf v))) Q) : gj_G md d K N k w pc lc (v :: .ref x :: st) n C Q := by
  intro p l e R s m args below meth c s0 a0 dC dI dA H locs ad ls cx ro hK hP hD hS oC sc ol hl
  obtain ⟨C0, T, N0, t0, h1, h2, h3, h4, h5, h6, h7, h8, h9⟩ := hf
  have hx0 := gj_ne0i sc hc
  have hxn : x ≤ n := ol.2 (.ref x) (List.mem_cons_of_mem _ List.mem_cons_self)
  have he : gj_oe n (.inr (ci, fs.set kf v)) := by
    have := oC x hxn
    rw [hc] at this
    intro u hu
    rcases List.mem_or_eq_of_mem_set hu with h | h
    · exact this u h
    · rw [h]; exact ol.2 v List.mem_cons_self
  have e9 : (gj_ws dA ad n C).set (x - 1) (ad x, .inr (ci, (fs.map (gj_tv ad)).set kf (gj_tv ad v))) = gj_ws dA ad n (va_up C x (.inr (ci, fs.set kf v))) := by
    rw [← gj_ws_set _ hx0, ← List.map_set]
    rfl
  refine va_putF (D := (dC, dI)) (cl := gj_cl) cx.1 cx.2.1 (gj_lays cx h4) (fun _ h => h) t0 h5 h6 cx.2.2.2.2.2.2.2.2.1 (va_K.moved cx.2.2.2.2.1.alike hK) hP hD hS (x - 1) (gj_wsi hx0 hxn hc) h1 kf h2 (gj_word cx h3 rfl) (fun _ h => h) h8 (cx.2.2.2.2.2.2.2.2.2.2.1.trans hin) (h9 rfl) (v := gj_tv ad v) h7 (hn ad) (hfit ad) (by rw [List.length_map]; exact hv) hd (fun H1 locs1 hP1 hD1 hS1 => ?_)
  rw [e9] at hP1 hD1
  have := kk p l e R s m args below meth c s0 a0 dC dI dA H1 locs1 ad ls cx ro hK hP1 hD1 hS1 (gj_oC_up oC he) (by rw [gj_up0 hx0]; exact sc) (gj_ol_pop (gj_ol_pop ol)) hl
  rw [gj_up0 hx0] at this
  exact this
theorem gj_iald {x kA len : Nat} {f : Nat → Int32} {i : Int32} (hd : decode md.2.1 pc = .ok (.iaload, 1)) (hc : C x = .inl (kA, len, .inl f)) (ha : gj_at[kA]? = some .int) (hi : vp_in i len) (kk : gj_G md d K N k w (pc + 1) lc (.int (f i.toNatClampNeg) :: st) n C Q) : gj_G md d K N k w pc lc (.int i :: .ref x :: st) n C Q := by
  intro p l e R s m args below meth c s0 a0 dC dI dA H locs ad ls cx ro hK hP hD hS oC sc ol hl
  have hxn : x ≤ n := ol.2 (.ref x) (List.mem_cons_of_mem _ List.mem_cons_self)
  exact va_iald (D := (dC, dI)) (cl := gj_cl) cx.1 cx.2.1 (va_K.moved cx.2.2.2.2.1.alike hK) hP (x - 1) kA (gj_wsa (gj_ne0a sc hc ha) hxn hc) (gj_tys_at ha) hi hd
    (kk p l e R s m args below meth c s0 a0 dC dI dA H locs ad ls cx ro hK hP hD hS oC sc (gj_ol_push (gj_ol_pop (gj_ol_pop ol)) trivial) hl)
theorem gj_zald {x kA len : Nat} {f : Nat → Int32} {i : Int32} (hd : decode md.2.1 pc = .ok (.baload, 1)) (hc : C x = .inl (kA, len, .inl f)) (ha : gj_at[kA]? = some .boolean) (hi : vp_in i len) (kk : gj_G md d K N k w (pc + 1) lc (.int (f i.toNatClampNeg) :: st) n C Q) : gj_G md d K N k w pc lc (.int i :: .ref x :: st) n C Q := by
  intro p l e R s m args below meth c s0 a0 dC dI dA H locs ad ls cx ro hK hP hD hS oC sc ol hl
  have hxn : x ≤ n := ol.2 (.ref x) (List.mem_cons_of_mem _ List.mem_cons_self)
  exact va_zald (D := (dC, dI)) (cl := gj_cl) cx.1 cx.2.1 (va_K.moved cx.2.2.2.2.1.alike hK) hP (x - 1) kA (gj_wsa (gj_ne0a sc hc ha) hxn hc) (gj_tys_at ha) hi hd
    (kk p l e R s m args below meth c s0 a0 dC dI dA H locs ad ls cx ro hK hP hD hS oC sc (gj_ol_push (gj_ol_pop (gj_ol_pop ol)) trivial) hl)
theorem gj_lald {x kA len : Nat} {f : Nat → Int64} {i : Int32} (hd : decode md.2.1 pc = .ok (.laload, 1)) (hc : C x = .inl (kA, len, .inr (.inl f))) (ha : gj_at[kA]? = some .long) (hi : vp_in i len) (kk : gj_G md d K N k w (pc + 1) lc (.long (f i.toNatClampNeg) :: st) n C Q) : gj_G md d K N k w pc lc (.int i :: .ref x :: st) n C Q := by
  intro p l e R s m args below meth c s0 a0 dC dI dA H locs ad ls cx ro hK hP hD hS oC sc ol hl
  have hxn : x ≤ n := ol.2 (.ref x) (List.mem_cons_of_mem _ List.mem_cons_self)
  exact va_lald (D := (dC, dI)) (cl := gj_cl) cx.1 cx.2.1 (va_K.moved cx.2.2.2.2.1.alike hK) hP (x - 1) kA (gj_wsa (gj_ne0a sc hc ha) hxn hc) (gj_tys_at ha) hi hd
    (kk p l e R s m args below meth c s0 a0 dC dI dA H locs ad ls cx ro hK hP hD hS oC sc (gj_ol_push (gj_ol_pop (gj_ol_pop ol)) trivial) hl)
theorem gj_rf (ad : Nat → Nat) (o : Option Nat) : gj_tv ad (va_rf o) = va_rf (o.map ad) := by cases o <;> rfl
theorem gj_aald {x kA len : Nat} {f : Nat → Option Nat} {i : Int32} {C0 : String} (hd : decode md.2.1 pc = .ok (.aaload, 1)) (hc : C x = .inl (kA, len, .inr (.inr (.inr (.inr f))))) (ha : gj_at[kA]? = some (.object C0)) (hi : vp_in i len) (kk : gj_G md d K N k w (pc + 1) lc (va_rf (f i.toNatClampNeg) :: st) n C Q) : gj_G md d K N k w pc lc (.int i :: .ref x :: st) n C Q := by
  intro p l e R s m args below meth c s0 a0 dC dI dA H locs ad ls cx ro hK hP hD hS oC sc ol hl
  have hxn : x ≤ n := ol.2 (.ref x) (List.mem_cons_of_mem _ List.mem_cons_self)
  have hvn : gj_ov n (va_rf (f i.toNatClampNeg)) := by
    have := oC x hxn
    rw [hc] at this
    cases hf : f i.toNatClampNeg with
    | none => trivial
    | some y => exact this _ _ hf
  have := kk p l e R s m args below meth c s0 a0 dC dI dA H locs ad ls cx ro hK hP hD hS oC sc (gj_ol_push (gj_ol_pop (gj_ol_pop ol)) hvn) hl
  rw [List.map_cons, gj_rf] at this
  exact va_aldq (D := (dC, dI)) (cl := gj_cl) cx.1 cx.2.1 (va_K.moved cx.2.2.2.2.1.alike hK) hP (x - 1) kA (gj_wsa (gj_ne0a sc hc ha) hxn hc) (gj_tys_at ha) hi hd this
theorem gj_iast {x kA len : Nat} {f : Nat → Int32} {i v : Int32} (hd : decode md.2.1 pc = .ok (.iastore, 1)) (hc : C x = .inl (kA, len, .inl f)) (ha : gj_at[kA]? = some .int) (hi : vp_in i len) (kk : gj_G md d K N k w (pc + 1) lc st n (va_up C x (.inl (kA, len, .inl (upd f i.toNatClampNeg v)))) Q) : gj_G md d K N k w pc lc (.int v :: .int i :: .ref x :: st) n C Q := by
  intro p l e R s m args below meth c s0 a0 dC dI dA H locs ad ls cx ro hK hP hD hS oC sc ol hl
  have hxn : x ≤ n := ol.2 (.ref x) (List.mem_cons_of_mem _ (List.mem_cons_of_mem _ List.mem_cons_self))
  have hx0 := gj_ne0a sc hc ha
  refine va_iast (D := (dC, dI)) (cl := gj_cl) cx.1 cx.2.1 (va_K.moved cx.2.2.2.2.1.alike hK) hP hD hS (x - 1) kA (gj_wsa hx0 hxn hc) (gj_tys_at ha) hi hd (fun H1 locs1 hP1 hD1 hS1 => ?_)
  have e9 := gj_ws_set (dA := dA) (ad := ad) (n := n) (C := C) (.inl (kA, len, .inl (upd f i.toNatClampNeg v))) hx0
  have hP1 : va_P (dC, dI) gj_cl ((gj_ws dA ad n C).set (x - 1) (ad x, gj_te dA ad (.inl (kA, len, .inl (upd f i.toNatClampNeg v))))) H1 := hP1
  have hD1 : va_D (fun q : Nat => s0.heap.size ≤ q) ((gj_ws dA ad n C).set (x - 1) (ad x, gj_te dA ad (.inl (kA, len, .inl (upd f i.toNatClampNeg v))))) := hD1
  rw [e9] at hP1 hD1
  have := kk p l e R s m args below meth c s0 a0 dC dI dA H1 locs1 ad ls cx ro hK hP1 hD1 hS1 (gj_oC_up oC trivial) (by rw [gj_up0 hx0]; exact sc) (gj_ol_pop (gj_ol_pop (gj_ol_pop ol))) hl
  rw [gj_up0 hx0] at this
  exact this
theorem gj_zast {x kA len : Nat} {f : Nat → Int32} {i v : Int32} (hd : decode md.2.1 pc = .ok (.bastore, 1)) (hc : C x = .inl (kA, len, .inl f)) (ha : gj_at[kA]? = some .boolean) (hi : vp_in i len) (kk : gj_G md d K N k w (pc + 1) lc st n (va_up C x (.inl (kA, len, .inl (upd f i.toNatClampNeg (vp_nar .boolean v))))) Q) : gj_G md d K N k w pc lc (.int v :: .int i :: .ref x :: st) n C Q := by
  intro p l e R s m args below meth c s0 a0 dC dI dA H locs ad ls cx ro hK hP hD hS oC sc ol hl
  have hxn : x ≤ n := ol.2 (.ref x) (List.mem_cons_of_mem _ (List.mem_cons_of_mem _ List.mem_cons_self))
  have hx0 := gj_ne0a sc hc ha
  refine va_zast (D := (dC, dI)) (cl := gj_cl) cx.1 cx.2.1 (va_K.moved cx.2.2.2.2.1.alike hK) hP hD hS (x - 1) kA (gj_wsa hx0 hxn hc) (gj_tys_at ha) hi hd (fun H1 locs1 hP1 hD1 hS1 => ?_)
  have e9 := gj_ws_set (dA := dA) (ad := ad) (n := n) (C := C) (.inl (kA, len, .inl (upd f i.toNatClampNeg (vp_nar .boolean v)))) hx0
  have hP1 : va_P (dC, dI) gj_cl ((gj_ws dA ad n C).set (x - 1) (ad x, gj_te dA ad (.inl (kA, len, .inl (upd f i.toNatClampNeg (vp_nar .boolean v)))))) H1 := hP1
  have hD1 : va_D (fun q : Nat => s0.heap.size ≤ q) ((gj_ws dA ad n C).set (x - 1) (ad x, gj_te dA ad (.inl (kA, len, .inl (upd f i.toNatClampNeg (vp_nar .boolean v)))))) := hD1
  rw [e9] at hP1 hD1
  have := kk p l e R s m args below meth c s0 a0 dC dI dA H1 locs1 ad ls cx ro hK hP1 hD1 hS1 (gj_oC_up oC trivial) (by rw [gj_up0 hx0]; exact sc) (gj_ol_pop (gj_ol_pop (gj_ol_pop ol))) hl
  rw [gj_up0 hx0] at this
  exact this
theorem gj_last {x kA len : Nat} {f : Nat → Int64} {i : Int32} {v : Int64} (hd : decode md.2.1 pc = .ok (.lastore, 1)) (hc : C x = .inl (kA, len, .inr (.inl f))) (ha : gj_at[kA]? = some .long) (hi : vp_in i len) (kk : gj_G md d K N k w (pc + 1) lc st n (va_up C x (.inl (kA, len, .inr (.inl (vp_updL f i.toNatClampNeg v))))) Q) : gj_G md d K N k w pc lc (.long v :: .int i :: .ref x :: st) n C Q := by
  intro p l e R s m args below meth c s0 a0 dC dI dA H locs ad ls cx ro hK hP hD hS oC sc ol hl
  have hxn : x ≤ n := ol.2 (.ref x) (List.mem_cons_of_mem _ (List.mem_cons_of_mem _ List.mem_cons_self))
  have hx0 := gj_ne0a sc hc ha
  refine va_last (D := (dC, dI)) (cl := gj_cl) cx.1 cx.2.1 (va_K.moved cx.2.2.2.2.1.alike hK) hP hD hS (x - 1) kA (gj_wsa hx0 hxn hc) (gj_tys_at ha) hi hd (fun H1 locs1 hP1 hD1 hS1 => ?_)
  have e9 := gj_ws_set (dA := dA) (ad := ad) (n := n) (C := C) (.inl (kA, len, .inr (.inl (vp_updL f i.toNatClampNeg v)))) hx0
  have hP1 : va_P (dC, dI) gj_cl ((gj_ws dA ad n C).set (x - 1) (ad x, gj_te dA ad (.inl (kA, len, .inr (.inl (vp_updL f i.toNatClampNeg v)))))) H1 := hP1
  have hD1 : va_D (fun q : Nat => s0.heap.size ≤ q) ((gj_ws dA ad n C).set (x - 1) (ad x, gj_te dA ad (.inl (kA, len, .inr (.inl (vp_updL f i.toNatClampNeg v)))))) := hD1
  rw [e9] at hP1 hD1
  have := kk p l e R s m args below meth c s0 a0 dC dI dA H1 locs1 ad ls cx ro hK hP1 hD1 hS1 (gj_oC_up oC trivial) (by rw [gj_up0 hx0]; exact sc) (gj_ol_pop (gj_ol_pop (gj_ol_pop ol))) hl
  rw [gj_up0 hx0] at this
  exact this
theorem gj_upm (ad : Nat → Nat) (f : Nat → Option Nat) (j : Nat) (o : Option Nat) : (fun i => (va_up f j o i).map ad) = va_up (fun i => (f i).map ad) j (o.map ad) := by
  funext i
  unfold va_up
  split <;> rfl
theorem gj_oxq {n j y : Nat} {f : Nat → Option Nat} (h : ∀ j y, f j = some y → y ≤ n) (hy : y ≤ n) : ∀ i z, va_up f j (some y) i = some z → z ≤ n := by
  intro i z hz
  unfold va_up at hz
  split at hz
  · cases hz; exact hy
  · exact h i z hz
theorem gj_oxn {n j : Nat} {f : Nat → Option Nat} (h : ∀ j y, f j = some y → y ≤ n) : ∀ i z, va_up f j none i = some z → z ≤ n := by
  intro i z hz
  unfold va_up at hz
  split at hz
  · cases hz
  · exact h i z hz
theorem gj_aast {x y kA len cv : Nat} {f : Nat → Option Nat} {i : Int32} {r : vw_C} {vs : List Value} (hd : decode md.2.1 pc = .ok (.aastore, 1)) (hc : C x = .inl (kA, len, .inr (.inr (.inr (.inr f))))) (hv : C y = .inr (cv, vs)) (hr : gj_cl[cv]? = some r) (ha : gj_at[kA]? = some (.object r.1)) (hi : vp_in i len) (kk : gj_G md d K N k w (pc + 1) lc st n (va_up C x (.inl (kA, len, .inr (.inr (.inr (.inr (va_up f i.toNatClampNeg (some y)))))))) Q) : gj_G md d K N k w pc lc (.ref y :: .int i :: .ref x :: st) n C Q := by
  intro p l e R s m args below meth c s0 a0 dC dI dA H locs ad ls cx ro hK hP hD hS oC sc ol hl
  have hxn : x ≤ n := ol.2 (.ref x) (List.mem_cons_of_mem _ (List.mem_cons_of_mem _ List.mem_cons_self))
  have hyn : y ≤ n := ol.2 (.ref y) List.mem_cons_self
  have hx0 := gj_ne0a sc hc ha
  have hy0 := gj_ne0i sc hv
  have hox : ∀ j y, f j = some y → y ≤ n := by
    have := oC x hxn
    rw [hc] at this
    exact this
  refine va_astq (D := (dC, dI)) (cl := gj_cl) cx.1 cx.2.1 (va_K.moved cx.2.2.2.2.1.alike hK) hP hD hS (x - 1) kA (y - 1) cv (gj_wsa hx0 hxn hc) (gj_tys_at ha) (gj_wsi hy0 hyn hv) hr hi hd (fun H1 locs1 hP1 hD1 hS1 => ?_)
  have e9 := gj_ws_set (dA := dA) (ad := ad) (n := n) (C := C) (.inl (kA, len, .inr (.inr (.inr (.inr (va_up f i.toNatClampNeg (some y))))))) hx0
  have e8 : gj_te dA ad (.inl (kA, len, .inr (.inr (.inr (.inr (va_up f i.toNatClampNeg (some y))))))) = .inl (dA kA, len, .inr (.inr (.inr (.inr (va_up (fun j => (f j).map ad) i.toNatClampNeg (some (ad y))))))) := by
    show (Sum.inl (dA kA, len, Sum.inr (Sum.inr (Sum.inr (Sum.inr (fun j => (va_up f i.toNatClampNeg (some y) j).map ad))))) : va_E) = _
    rw [gj_upm]
    rfl
  rw [e8] at e9
  rw [e9] at hP1 hD1
  have := kk p l e R s m args below meth c s0 a0 dC dI dA H1 locs1 ad ls cx ro hK hP1 hD1 hS1 (gj_oC_up oC (gj_oxq hox hyn)) (by rw [gj_up0 hx0]; exact sc) (gj_ol_pop (gj_ol_pop (gj_ol_pop ol))) hl
  rw [gj_up0 hx0] at this
  exact this
theorem gj_aastN {x kA len : Nat} {f : Nat → Option Nat} {i : Int32} {C0 : String} (hd : decode md.2.1 pc = .ok (.aastore, 1)) (hc : C x = .inl (kA, len, .inr (.inr (.inr (.inr f))))) (ha : gj_at[kA]? = some (.object C0)) (hi : vp_in i len) (kk : gj_G md d K N k w (pc + 1) lc st n (va_up C x (.inl (kA, len, .inr (.inr (.inr (.inr (va_up f i.toNatClampNeg none))))))) Q) : gj_G md d K N k w pc lc (.null :: .int i :: .ref x :: st) n C Q := by
  intro p l e R s m args below meth c s0 a0 dC dI dA H locs ad ls cx ro hK hP hD hS oC sc ol hl
  have hxn : x ≤ n := ol.2 (.ref x) (List.mem_cons_of_mem _ (List.mem_cons_of_mem _ List.mem_cons_self))
  have hx0 := gj_ne0a sc hc ha
  have hox : ∀ j y, f j = some y → y ≤ n := by
    have := oC x hxn
    rw [hc] at this
    exact this
  refine va_astqN (D := (dC, dI)) (cl := gj_cl) cx.1 cx.2.1 (va_K.moved cx.2.2.2.2.1.alike hK) hP hD hS (x - 1) kA (gj_wsa hx0 hxn hc) (gj_tys_at ha) hi hd (fun H1 locs1 hP1 hD1 hS1 => ?_)
  have e9 := gj_ws_set (dA := dA) (ad := ad) (n := n) (C := C) (.inl (kA, len, .inr (.inr (.inr (.inr (va_up f i.toNatClampNeg none)))))) hx0
  have e8 : gj_te dA ad (.inl (kA, len, .inr (.inr (.inr (.inr (va_up f i.toNatClampNeg none)))))) = .inl (dA kA, len, .inr (.inr (.inr (.inr (va_up (fun j => (f j).map ad) i.toNatClampNeg none))))) := by
    show (Sum.inl (dA kA, len, Sum.inr (Sum.inr (Sum.inr (Sum.inr (fun j => (va_up f i.toNatClampNeg none j).map ad))))) : va_E) = _
    rw [gj_upm]
    rfl
  rw [e8] at e9
  rw [e9] at hP1 hD1
  have := kk p l e R s m args below meth c s0 a0 dC dI dA H1 locs1 ad ls cx ro hK hP1 hD1 hS1 (gj_oC_up oC (gj_oxn hox)) (by rw [gj_up0 hx0]; exact sc) (gj_ol_pop (gj_ol_pop (gj_ol_pop ol))) hl
  rw [gj_up0 hx0] at this
  exact this
theorem gj_alen {x kA len : Nat} {a : gj_X} {ty : FieldType} (hd : decode md.2.1 pc = .ok (.arraylength, 1)) (hc : C x = .inl (kA, len, a)) (ha : gj_at[kA]? = some ty) (kk : gj_G md d K N k w (pc + 1) lc (.int (Int32.ofNat len) :: st) n C Q) : gj_G md d K N k w pc lc (.ref x :: st) n C Q := by
  intro p l e R s m args below meth c s0 a0 dC dI dA H locs ad ls cx ro hK hP hD hS oC sc ol hl
  have hxn : x ≤ n := ol.2 (.ref x) List.mem_cons_self
  exact va_alen (D := (dC, dI)) (cl := gj_cl) cx.1 cx.2.1 (va_K.moved cx.2.2.2.2.1.alike hK) hP (x - 1) kA (gj_wsa (gj_ne0a sc hc ha) hxn hc) (gj_tys_at ha) rfl hd
    (kk p l e R s m args below meth c s0 a0 dC dI dA H locs ad ls cx ro hK hP hD hS oC sc (gj_ol_push (gj_ol_pop ol) trivial) hl)
/-- the script's ints and length -/
theorem gj_xS {p : Program} {l : Launch} {s : State} {m : MethodId} {meth : Method} {c : Code} {s0 : State} {a0 : Array Value} {b L : Nat} {xs : Nat → Int32} (cx : gj_Cx md p l s m meth c s0 a0) (h : va_X b L xs s0 s0.heap) (hb : b < s0.heap.size) : va_X b L xs s s.heap :=
  (va_X.moved cx.2.2.2.2.1.alike h).kept (cx.2.2.2.2.2.1.2 b hb)
theorem gj_sld {L : Nat} {xs : Nat → Int32} {i : Int32} (hd : decode md.2.1 pc = .ok (.iaload, 1)) (hc : C 0 = .inl (999, L, .inl xs)) (hi : vp_in i L) (kk : gj_G md d K N k w (pc + 1) lc (.int (xs i.toNatClampNeg) :: st) n C Q) : gj_G md d K N k w pc lc (.int i :: .ref 0 :: st) n C Q := by
  intro p l e R s m args below meth c s0 a0 dC dI dA H locs ad ls cx ro hK hP hD hS oC sc ol hl
  obtain ⟨L', xs', h1, h2, h3⟩ := id sc
  rw [hc] at h1
  cases h1
  exact va_sld cx.1 cx.2.1 (gj_xS cx h2 h3) (Nat.lt_of_lt_of_le h3 cx.2.2.2.2.2.1.1) (Nat.not_le.mpr h3) hS hi hd
    (kk p l e R s m args below meth c s0 a0 dC dI dA H locs ad ls cx ro hK hP hD hS oC sc (gj_ol_push (gj_ol_pop (gj_ol_pop ol)) trivial) hl)
theorem gj_slen {L : Nat} {xs : Nat → Int32} (hd : decode md.2.1 pc = .ok (.arraylength, 1)) (hc : C 0 = .inl (999, L, .inl xs)) (kk : gj_G md d K N k w (pc + 1) lc (.int (Int32.ofNat L) :: st) n C Q) : gj_G md d K N k w pc lc (.ref 0 :: st) n C Q := by
  intro p l e R s m args below meth c s0 a0 dC dI dA H locs ad ls cx ro hK hP hD hS oC sc ol hl
  obtain ⟨L', xs', h1, h2, h3⟩ := id sc
  rw [hc] at h1
  cases h1
  exact va_slen cx.1 cx.2.1 (gj_xS cx h2 h3) (Nat.lt_of_lt_of_le h3 cx.2.2.2.2.2.1.1) (Nat.not_le.mpr h3) hS hd
    (kk p l e R s m args below meth c s0 a0 dC dI dA H locs ad ls cx ro hK hP hD hS oC sc (gj_ol_push (gj_ol_pop ol) trivial) hl)
end
