/-! ONE STEP of the instructions that touch neither memory nor other methods -/
def gj_lk : List (Nat × Value) → Nat → Option Value
  | [], _ => none
  | q :: r, i => if q.1 = i then some q.2 else gj_lk r i
theorem gj_lk_in : ∀ {lc : List (Nat × Value)} {i : Nat} {v : Value}, gj_lk lc i = some v → (i, v) ∈ lc
  | [], _, _, h => by cases h
  | q :: r, i, v, h => by
    unfold gj_lk at h
    split at h
    · rename_i hq
      cases h
      rw [← hq]
      exact List.mem_cons_self
    · exact List.mem_cons_of_mem _ (gj_lk_in h)
theorem gj_lv {ls : Array Slot} {nL : Nat} {ad : Nat → Nat} {lc : List (Nat × Value)} {i : Nat} {v : Value} (hl : lv_has ls nL (gj_tl ad lc)) (h : gj_lk lc i = some v) : ls[i]? = some (.val (gj_tv ad v)) :=
  hl.2.2 (i, gj_tv ad v) (List.mem_map.mpr ⟨(i, v), gj_lk_in h, rfl⟩)
theorem gj_lp {ad : Nat → Nat} {lc : List (Nat × Value)} {i : Nat} {v : Value} (h : gj_lk lc i = some v) : ∃ j : Nat, (gj_tl ad lc)[j]? = some (i, gj_tv ad v) := by
  obtain ⟨j, hj⟩ := List.getElem?_of_mem (gj_lk_in h)
  exact ⟨j, gj_tl_at hj⟩
/-- fewer locals, as a list of one's own -/
def gj_all : List (Nat × Value) → List (Nat × Value) → Prop
  | [], _ => True
  | q :: r, lc => gj_lk lc q.1 = some q.2 ∧ gj_all r lc
theorem gj_all_in : ∀ {l lc : List (Nat × Value)}, gj_all l lc → ∀ q ∈ l, q ∈ lc
  | [], _, _, q, hq => by cases hq
  | a :: r, lc, h, q, hq => (List.mem_cons.mp hq).elim (fun e => by rw [e]; exact gj_lk_in h.1) (fun hm => gj_all_in h.2 q hm)
section
variable {md : gj_M} {d K N k w pc : Nat} {lc : List (Nat × Value)} {st : List Value} {n : Nat} {C : Nat → va_E} {Q : gj_R → Prop}
theorem gj_less {lc' : List (Nat × Value)} (h : gj_all lc' lc) (kk : gj_G md d K N k w pc lc' st n C Q) : gj_G md d K N k w pc lc st n C Q := by
  intro p l e R s m args below meth c s0 a0 dC dI dA H locs ad ls cx ro hK hP hD hS oC sc ol hl
  refine kk p l e R s m args below meth c s0 a0 dC dI dA H locs ad ls cx ro hK hP hD hS oC sc ⟨fun q hq => ol.1 q (gj_all_in h q hq), ol.2⟩ ⟨hl.1, hl.2.1, fun q hq => hl.2.2 q ?_⟩
  obtain ⟨z, hz, e⟩ := List.mem_map.mp hq
  exact List.mem_map.mpr ⟨z, gj_all_in h z hz, e⟩
theorem gj_iconst {z : Int} (hd : decode md.2.1 pc = .ok (.iconst z, 1)) (kk : gj_G md d K N k w (pc + 1) lc (.int (Int32.ofInt z) :: st) n C Q) : gj_G md d K N k w pc lc (st) n C Q := by
  intro p l e R s m args below meth c s0 a0 dC dI dA H locs ad ls cx ro hK hP hD hS oC sc ol hl
  exact lv_iconst cx.1 cx.2.1 hd rfl (kk p l e R s m args below meth c s0 a0 dC dI dA H locs ad ls cx ro hK hP hD hS oC sc (gj_ol_push ol trivial) hl)
theorem gj_bipush {z : Int} (hd : decode md.2.1 pc = .ok (.bipush z, 2)) (kk : gj_G md d K N k w (pc + 2) lc (.int ((Int8.ofInt z).toInt32) :: st) n C Q) : gj_G md d K N k w pc lc (st) n C Q := by
  intro p l e R s m args below meth c s0 a0 dC dI dA H locs ad ls cx ro hK hP hD hS oC sc ol hl
  exact lv_bipush cx.1 cx.2.1 hd rfl (kk p l e R s m args below meth c s0 a0 dC dI dA H locs ad ls cx ro hK hP hD hS oC sc (gj_ol_push ol trivial) hl)
theorem gj_sipush {z : Int} (hd : decode md.2.1 pc = .ok (.sipush z, 3)) (kk : gj_G md d K N k w (pc + 3) lc (.int ((Int16.ofInt z).toInt32) :: st) n C Q) : gj_G md d K N k w pc lc (st) n C Q := by
  intro p l e R s m args below meth c s0 a0 dC dI dA H locs ad ls cx ro hK hP hD hS oC sc ol hl
  exact lv_sipush cx.1 cx.2.1 hd rfl (kk p l e R s m args below meth c s0 a0 dC dI dA H locs ad ls cx ro hK hP hD hS oC sc (gj_ol_push ol trivial) hl)
theorem gj_lconst {z : Fin 2} (hd : decode md.2.1 pc = .ok (.lconst z, 1)) (kk : gj_G md d K N k w (pc + 1) lc (.long (Int64.ofNat z) :: st) n C Q) : gj_G md d K N k w pc lc (st) n C Q := by
  intro p l e R s m args below meth c s0 a0 dC dI dA H locs ad ls cx ro hK hP hD hS oC sc ol hl
  exact lv_lconst cx.1 cx.2.1 hd rfl (kk p l e R s m args below meth c s0 a0 dC dI dA H locs ad ls cx ro hK hP hD hS oC sc (gj_ol_push ol trivial) hl)
theorem gj_null (hd : decode md.2.1 pc = .ok (Instr.aconst_null, 1)) (kk : gj_G md d K N k w (pc + 1) lc (.null :: st) n C Q) : gj_G md d K N k w pc lc (st) n C Q := by
  intro p l e R s m args below meth c s0 a0 dC dI dA H locs ad ls cx ro hK hP hD hS oC sc ol hl
  exact lv_null cx.1 cx.2.1 hd (kk p l e R s m args below meth c s0 a0 dC dI dA H locs ad ls cx ro hK hP hD hS oC sc (gj_ol_push ol trivial) hl)
theorem gj_iload {i : Nat} {x : Int32} (hd : decode md.2.1 pc = .ok (.iload i, 2)) (hk : gj_lk lc i = some (.int x)) (kk : gj_G md d K N k w (pc + 2) lc (.int x :: st) n C Q) : gj_G md d K N k w pc lc (st) n C Q := by
  intro p l e R s m args below meth c s0 a0 dC dI dA H locs ad ls cx ro hK hP hD hS oC sc ol hl
  exact lv_iload cx.1 cx.2.1 hd (gj_lv hl hk) (kk p l e R s m args below meth c s0 a0 dC dI dA H locs ad ls cx ro hK hP hD hS oC sc (gj_ol_push ol trivial) hl)
theorem gj_iload_n {i : Fin 4} {x : Int32} (hd : decode md.2.1 pc = .ok (.iload_n i, 1)) (hk : gj_lk lc i = some (.int x)) (kk : gj_G md d K N k w (pc + 1) lc (.int x :: st) n C Q) : gj_G md d K N k w pc lc (st) n C Q := by
  intro p l e R s m args below meth c s0 a0 dC dI dA H locs ad ls cx ro hK hP hD hS oC sc ol hl
  exact lv_iload_n cx.1 cx.2.1 hd rfl (gj_lv hl hk) (kk p l e R s m args below meth c s0 a0 dC dI dA H locs ad ls cx ro hK hP hD hS oC sc (gj_ol_push ol trivial) hl)
theorem gj_lload {i : Nat} {x : Int64} (hd : decode md.2.1 pc = .ok (.lload i, 2)) (hk : gj_lk lc i = some (.long x)) (kk : gj_G md d K N k w (pc + 2) lc (.long x :: st) n C Q) : gj_G md d K N k w pc lc (st) n C Q := by
  intro p l e R s m args below meth c s0 a0 dC dI dA H locs ad ls cx ro hK hP hD hS oC sc ol hl
  exact lv_lload cx.1 cx.2.1 hd (gj_lv hl hk) (kk p l e R s m args below meth c s0 a0 dC dI dA H locs ad ls cx ro hK hP hD hS oC sc (gj_ol_push ol trivial) hl)
theorem gj_lload_n {i : Fin 4} {x : Int64} (hd : decode md.2.1 pc = .ok (.lload_n i, 1)) (hk : gj_lk lc i = some (.long x)) (kk : gj_G md d K N k w (pc + 1) lc (.long x :: st) n C Q) : gj_G md d K N k w pc lc (st) n C Q := by
  intro p l e R s m args below meth c s0 a0 dC dI dA H locs ad ls cx ro hK hP hD hS oC sc ol hl
  exact lv_lload_n cx.1 cx.2.1 hd rfl (gj_lv hl hk) (kk p l e R s m args below meth c s0 a0 dC dI dA H locs ad ls cx ro hK hP hD hS oC sc (gj_ol_push ol trivial) hl)
theorem gj_aload {i : Nat} {x : Nat} (hd : decode md.2.1 pc = .ok (.aload i, 2)) (hk : gj_lk lc i = some (.ref x)) (kk : gj_G md d K N k w (pc + 2) lc (.ref x :: st) n C Q) : gj_G md d K N k w pc lc (st) n C Q := by
  intro p l e R s m args below meth c s0 a0 dC dI dA H locs ad ls cx ro hK hP hD hS oC sc ol hl
  exact lv_aload cx.1 cx.2.1 hd (gj_lv hl hk) (kk p l e R s m args below meth c s0 a0 dC dI dA H locs ad ls cx ro hK hP hD hS oC sc (gj_ol_push ol (ol.1 _ (gj_lk_in hk))) hl)
theorem gj_aloadN {i : Nat} (hd : decode md.2.1 pc = .ok (.aload i, 2)) (hk : gj_lk lc i = some .null) (kk : gj_G md d K N k w (pc + 2) lc (.null :: st) n C Q) : gj_G md d K N k w pc lc (st) n C Q := by
  intro p l e R s m args below meth c s0 a0 dC dI dA H locs ad ls cx ro hK hP hD hS oC sc ol hl
  exact lv_aloadN cx.1 cx.2.1 hd (gj_lv hl hk) (kk p l e R s m args below meth c s0 a0 dC dI dA H locs ad ls cx ro hK hP hD hS oC sc (gj_ol_push ol trivial) hl)
theorem gj_aload_n {i : Fin 4} {x : Nat} (hd : decode md.2.1 pc = .ok (.aload_n i, 1)) (hk : gj_lk lc i = some (.ref x)) (kk : gj_G md d K N k w (pc + 1) lc (.ref x :: st) n C Q) : gj_G md d K N k w pc lc (st) n C Q := by
  intro p l e R s m args below meth c s0 a0 dC dI dA H locs ad ls cx ro hK hP hD hS oC sc ol hl
  exact lv_aload_n cx.1 cx.2.1 hd rfl (gj_lv hl hk) (kk p l e R s m args below meth c s0 a0 dC dI dA H locs ad ls cx ro hK hP hD hS oC sc (gj_ol_push ol (ol.1 _ (gj_lk_in hk))) hl)
theorem gj_aload_nN {i : Fin 4} (hd : decode md.2.1 pc = .ok (.aload_n i, 1)) (hk : gj_lk lc i = some .null) (kk : gj_G md d K N k w (pc + 1) lc (.null :: st) n C Q) : gj_G md d K N k w pc lc (st) n C Q := by
  intro p l e R s m args below meth c s0 a0 dC dI dA H locs ad ls cx ro hK hP hD hS oC sc ol hl
  exact lv_aload_nN cx.1 cx.2.1 hd rfl (gj_lv hl hk) (kk p l e R s m args below meth c s0 a0 dC dI dA H locs ad ls cx ro hK hP hD hS oC sc (gj_ol_push ol trivial) hl)
theorem gj_istore {i : Nat} {x : Int32} (hd : decode md.2.1 pc = .ok (.istore i, 2)) (hn : i < md.2.2.1) (kk : gj_G md d K N k w (pc + 2) (gj_st1 lc i (.int x)) st n C Q) : gj_G md d K N k w pc lc (.int x :: st) n C Q := by
  intro p l e R s m args below meth c s0 a0 dC dI dA H locs ad ls cx ro hK hP hD hS oC sc ol hl
  exact lv_istore cx.1 cx.2.1 hd hl hn (gj_tl_st1 (v := .int x)) (fun ls hl => kk p l e R s m args below meth c s0 a0 dC dI dA H locs ad ls cx ro hK hP hD hS oC sc (gj_ol_st1 ol) hl)
theorem gj_lstore {i : Nat} {x : Int64} (hd : decode md.2.1 pc = .ok (.lstore i, 2)) (hn : i + 1 < md.2.2.1) (kk : gj_G md d K N k w (pc + 2) (gj_st2 lc i (.long x)) st n C Q) : gj_G md d K N k w pc lc (.long x :: st) n C Q := by
  intro p l e R s m args below meth c s0 a0 dC dI dA H locs ad ls cx ro hK hP hD hS oC sc ol hl
  exact lv_lstore cx.1 cx.2.1 hd hl hn (gj_tl_st2 (v := .long x)) (fun ls hl => kk p l e R s m args below meth c s0 a0 dC dI dA H locs ad ls cx ro hK hP hD hS oC sc (gj_ol_st2 ol) hl)
theorem gj_astore {i : Nat} {x : Nat} (hd : decode md.2.1 pc = .ok (.astore i, 2)) (hn : i < md.2.2.1) (kk : gj_G md d K N k w (pc + 2) (gj_st1 lc i (.ref x)) st n C Q) : gj_G md d K N k w pc lc (.ref x :: st) n C Q := by
  intro p l e R s m args below meth c s0 a0 dC dI dA H locs ad ls cx ro hK hP hD hS oC sc ol hl
  exact lv_astore cx.1 cx.2.1 hd hl hn (gj_tl_st1 (v := .ref x)) (fun ls hl => kk p l e R s m args below meth c s0 a0 dC dI dA H locs ad ls cx ro hK hP hD hS oC sc (gj_ol_st1 ol) hl)
theorem gj_astoreN {i : Nat} (hd : decode md.2.1 pc = .ok (.astore i, 2)) (hn : i < md.2.2.1) (kk : gj_G md d K N k w (pc + 2) (gj_st1 lc i (.null)) st n C Q) : gj_G md d K N k w pc lc (.null :: st) n C Q := by
  intro p l e R s m args below meth c s0 a0 dC dI dA H locs ad ls cx ro hK hP hD hS oC sc ol hl
  exact lv_astoreN cx.1 cx.2.1 hd hl hn (gj_tl_st1 (v := .null)) (fun ls hl => kk p l e R s m args below meth c s0 a0 dC dI dA H locs ad ls cx ro hK hP hD hS oC sc (gj_ol_st1 ol) hl)
theorem gj_istore_n {i : Fin 4} {x : Int32} (hd : decode md.2.1 pc = .ok (.istore_n i, 1)) (hn : i < md.2.2.1) (kk : gj_G md d K N k w (pc + 1) (gj_st1 lc i (.int x)) st n C Q) : gj_G md d K N k w pc lc (.int x :: st) n C Q := by
  intro p l e R s m args below meth c s0 a0 dC dI dA H locs ad ls cx ro hK hP hD hS oC sc ol hl
  exact lv_istore_n cx.1 cx.2.1 hd rfl hl hn (gj_tl_st1 (v := .int x)) (fun ls hl => kk p l e R s m args below meth c s0 a0 dC dI dA H locs ad ls cx ro hK hP hD hS oC sc (gj_ol_st1 ol) hl)
theorem gj_lstore_n {i : Fin 4} {x : Int64} (hd : decode md.2.1 pc = .ok (.lstore_n i, 1)) (hn : i + 1 < md.2.2.1) (kk : gj_G md d K N k w (pc + 1) (gj_st2 lc i (.long x)) st n C Q) : gj_G md d K N k w pc lc (.long x :: st) n C Q := by
  intro p l e R s m args below meth c s0 a0 dC dI dA H locs ad ls cx ro hK hP hD hS oC sc ol hl
  exact lv_lstore_n cx.1 cx.2.1 hd rfl hl hn (gj_tl_st2 (v := .long x)) (fun ls hl => kk p l e R s m args below meth c s0 a0 dC dI dA H locs ad ls cx ro hK hP hD hS oC sc (gj_ol_st2 ol) hl)
theorem gj_astore_n {i : Fin 4} {x : Nat} (hd : decode md.2.1 pc = .ok (.astore_n i, 1)) (hn : i < md.2.2.1) (kk : gj_G md d K N k w (pc + 1) (gj_st1 lc i (.ref x)) st n C Q) : gj_G md d K N k w pc lc (.ref x :: st) n C Q := by
  intro p l e R s m args below meth c s0 a0 dC dI dA H locs ad ls cx ro hK hP hD hS oC sc ol hl
  exact lv_astore_n cx.1 cx.2.1 hd rfl hl hn (gj_tl_st1 (v := .ref x)) (fun ls hl => kk p l e R s m args below meth c s0 a0 dC dI dA H locs ad ls cx ro hK hP hD hS oC sc (gj_ol_st1 ol) hl)
theorem gj_astore_nN {i : Fin 4} (hd : decode md.2.1 pc = .ok (.astore_n i, 1)) (hn : i < md.2.2.1) (kk : gj_G md d K N k w (pc + 1) (gj_st1 lc i (.null)) st n C Q) : gj_G md d K N k w pc lc (.null :: st) n C Q := by
  intro p l e R s m args below meth c s0 a0 dC dI dA H locs ad ls cx ro hK hP hD hS oC sc ol hl
  exact lv_astore_nN cx.1 cx.2.1 hd rfl hl hn (gj_tl_st1 (v := .null)) (fun ls hl => kk p l e R s m args below meth c s0 a0 dC dI dA H locs ad ls cx ro hK hP hD hS oC sc (gj_ol_st1 ol) hl)
theorem gj_iinc {i : Nat} {z : Int} {x : Int32} (hd : decode md.2.1 pc = .ok (.iinc i z, 3)) (hk : gj_lk lc i = some (.int x)) (hn : i < md.2.2.1) (kk : gj_G md d K N k w (pc + 3) (gj_st1 lc i (.int (x + Int32.ofInt z))) st n C Q) : gj_G md d K N k w pc lc st n C Q := by
  intro p l e R s m args below meth c s0 a0 dC dI dA H locs ad ls cx ro hK hP hD hS oC sc ol hl
  obtain ⟨j, hj⟩ := gj_lp (ad := ad) hk
  exact lv_iinc cx.1 cx.2.1 hd hl (k := j) hj rfl hn (gj_tl_st1 (v := .int (x + Int32.ofInt z))) (fun ls hl => kk p l e R s m args below meth c s0 a0 dC dI dA H locs ad ls cx ro hK hP hD hS oC sc (gj_ol_st1 (gj_ol_push ol trivial)) hl)
theorem gj_iadd {x y : Int32} (hd : decode md.2.1 pc = .ok (.iadd, 1)) (kk : gj_G md d K N k w (pc + 1) lc (.int (x + y) :: st) n C Q) : gj_G md d K N k w pc lc (.int y :: .int x :: st) n C Q := by
  intro p l e R s m args below meth c s0 a0 dC dI dA H locs ad ls cx ro hK hP hD hS oC sc ol hl
  exact lv_iadd cx.1 cx.2.1 hd (kk p l e R s m args below meth c s0 a0 dC dI dA H locs ad ls cx ro hK hP hD hS oC sc (gj_ol_push (gj_ol_pop (gj_ol_pop ol)) trivial) hl)
theorem gj_isub {x y : Int32} (hd : decode md.2.1 pc = .ok (.isub, 1)) (kk : gj_G md d K N k w (pc + 1) lc (.int (x - y) :: st) n C Q) : gj_G md d K N k w pc lc (.int y :: .int x :: st) n C Q := by
  intro p l e R s m args below meth c s0 a0 dC dI dA H locs ad ls cx ro hK hP hD hS oC sc ol hl
  exact lv_isub cx.1 cx.2.1 hd (kk p l e R s m args below meth c s0 a0 dC dI dA H locs ad ls cx ro hK hP hD hS oC sc (gj_ol_push (gj_ol_pop (gj_ol_pop ol)) trivial) hl)
theorem gj_imul {x y : Int32} (hd : decode md.2.1 pc = .ok (.imul, 1)) (kk : gj_G md d K N k w (pc + 1) lc (.int (x * y) :: st) n C Q) : gj_G md d K N k w pc lc (.int y :: .int x :: st) n C Q := by
  intro p l e R s m args below meth c s0 a0 dC dI dA H locs ad ls cx ro hK hP hD hS oC sc ol hl
  exact lv_imul cx.1 cx.2.1 hd (kk p l e R s m args below meth c s0 a0 dC dI dA H locs ad ls cx ro hK hP hD hS oC sc (gj_ol_push (gj_ol_pop (gj_ol_pop ol)) trivial) hl)
theorem gj_iand {x y : Int32} (hd : decode md.2.1 pc = .ok (.iand, 1)) (kk : gj_G md d K N k w (pc + 1) lc (.int (x &&& y) :: st) n C Q) : gj_G md d K N k w pc lc (.int y :: .int x :: st) n C Q := by
  intro p l e R s m args below meth c s0 a0 dC dI dA H locs ad ls cx ro hK hP hD hS oC sc ol hl
  exact lv_iand cx.1 cx.2.1 hd (kk p l e R s m args below meth c s0 a0 dC dI dA H locs ad ls cx ro hK hP hD hS oC sc (gj_ol_push (gj_ol_pop (gj_ol_pop ol)) trivial) hl)
theorem gj_ior {x y : Int32} (hd : decode md.2.1 pc = .ok (.ior, 1)) (kk : gj_G md d K N k w (pc + 1) lc (.int (x ||| y) :: st) n C Q) : gj_G md d K N k w pc lc (.int y :: .int x :: st) n C Q := by
  intro p l e R s m args below meth c s0 a0 dC dI dA H locs ad ls cx ro hK hP hD hS oC sc ol hl
  exact lv_ior cx.1 cx.2.1 hd (kk p l e R s m args below meth c s0 a0 dC dI dA H locs ad ls cx ro hK hP hD hS oC sc (gj_ol_push (gj_ol_pop (gj_ol_pop ol)) trivial) hl)
theorem gj_ixor {x y : Int32} (hd : decode md.2.1 pc = .ok (.ixor, 1)) (kk : gj_G md d K N k w (pc + 1) lc (.int (x ^^^ y) :: st) n C Q) : gj_G md d K N k w pc lc (.int y :: .int x :: st) n C Q := by
  intro p l e R s m args below meth c s0 a0 dC dI dA H locs ad ls cx ro hK hP hD hS oC sc ol hl
  exact lv_ixor cx.1 cx.2.1 hd (kk p l e R s m args below meth c s0 a0 dC dI dA H locs ad ls cx ro hK hP hD hS oC sc (gj_ol_push (gj_ol_pop (gj_ol_pop ol)) trivial) hl)
theorem gj_ishl {x y : Int32} (hd : decode md.2.1 pc = .ok (.ishl, 1)) (kk : gj_G md d K N k w (pc + 1) lc (.int (x <<< (y &&& 31)) :: st) n C Q) : gj_G md d K N k w pc lc (.int y :: .int x :: st) n C Q := by
  intro p l e R s m args below meth c s0 a0 dC dI dA H locs ad ls cx ro hK hP hD hS oC sc ol hl
  exact lv_ishl cx.1 cx.2.1 hd (kk p l e R s m args below meth c s0 a0 dC dI dA H locs ad ls cx ro hK hP hD hS oC sc (gj_ol_push (gj_ol_pop (gj_ol_pop ol)) trivial) hl)
theorem gj_ishr {x y : Int32} (hd : decode md.2.1 pc = .ok (.ishr, 1)) (kk : gj_G md d K N k w (pc + 1) lc (.int (x >>> (y &&& 31)) :: st) n C Q) : gj_G md d K N k w pc lc (.int y :: .int x :: st) n C Q := by
  intro p l e R s m args below meth c s0 a0 dC dI dA H locs ad ls cx ro hK hP hD hS oC sc ol hl
  exact lv_ishr cx.1 cx.2.1 hd (kk p l e R s m args below meth c s0 a0 dC dI dA H locs ad ls cx ro hK hP hD hS oC sc (gj_ol_push (gj_ol_pop (gj_ol_pop ol)) trivial) hl)
theorem gj_idiv {x y : Int32} (hd : decode md.2.1 pc = .ok (.idiv, 1)) (hne : ¬ y = 0) (kk : gj_G md d K N k w (pc + 1) lc (.int (x / y) :: st) n C Q) : gj_G md d K N k w pc lc (.int y :: .int x :: st) n C Q := by
  intro p l e R s m args below meth c s0 a0 dC dI dA H locs ad ls cx ro hK hP hD hS oC sc ol hl
  exact lv_idiv cx.1 cx.2.1 hd hne (kk p l e R s m args below meth c s0 a0 dC dI dA H locs ad ls cx ro hK hP hD hS oC sc (gj_ol_push (gj_ol_pop (gj_ol_pop ol)) trivial) hl)
theorem gj_irem {x y : Int32} (hd : decode md.2.1 pc = .ok (.irem, 1)) (hne : ¬ y = 0) (kk : gj_G md d K N k w (pc + 1) lc (.int (x - x / y * y) :: st) n C Q) : gj_G md d K N k w pc lc (.int y :: .int x :: st) n C Q := by
  intro p l e R s m args below meth c s0 a0 dC dI dA H locs ad ls cx ro hK hP hD hS oC sc ol hl
  exact lv_irem cx.1 cx.2.1 hd hne (kk p l e R s m args below meth c s0 a0 dC dI dA H locs ad ls cx ro hK hP hD hS oC sc (gj_ol_push (gj_ol_pop (gj_ol_pop ol)) trivial) hl)
theorem gj_ladd {x y : Int64} (hd : decode md.2.1 pc = .ok (.ladd, 1)) (kk : gj_G md d K N k w (pc + 1) lc (.long (x + y) :: st) n C Q) : gj_G md d K N k w pc lc (.long y :: .long x :: st) n C Q := by
  intro p l e R s m args below meth c s0 a0 dC dI dA H locs ad ls cx ro hK hP hD hS oC sc ol hl
  exact lv_ladd cx.1 cx.2.1 hd (kk p l e R s m args below meth c s0 a0 dC dI dA H locs ad ls cx ro hK hP hD hS oC sc (gj_ol_push (gj_ol_pop (gj_ol_pop ol)) trivial) hl)
theorem gj_lsub {x y : Int64} (hd : decode md.2.1 pc = .ok (.lsub, 1)) (kk : gj_G md d K N k w (pc + 1) lc (.long (x - y) :: st) n C Q) : gj_G md d K N k w pc lc (.long y :: .long x :: st) n C Q := by
  intro p l e R s m args below meth c s0 a0 dC dI dA H locs ad ls cx ro hK hP hD hS oC sc ol hl
  exact lv_lsub cx.1 cx.2.1 hd (kk p l e R s m args below meth c s0 a0 dC dI dA H locs ad ls cx ro hK hP hD hS oC sc (gj_ol_push (gj_ol_pop (gj_ol_pop ol)) trivial) hl)
theorem gj_lmul {x y : Int64} (hd : decode md.2.1 pc = .ok (.lmul, 1)) (kk : gj_G md d K N k w (pc + 1) lc (.long (x * y) :: st) n C Q) : gj_G md d K N k w pc lc (.long y :: .long x :: st) n C Q := by
  intro p l e R s m args below meth c s0 a0 dC dI dA H locs ad ls cx ro hK hP hD hS oC sc ol hl
  exact lv_lmul cx.1 cx.2.1 hd (kk p l e R s m args below meth c s0 a0 dC dI dA H locs ad ls cx ro hK hP hD hS oC sc (gj_ol_push (gj_ol_pop (gj_ol_pop ol)) trivial) hl)
theorem gj_ldiv {x y : Int64} (hd : decode md.2.1 pc = .ok (.ldiv, 1)) (hne : ¬ y = 0) (kk : gj_G md d K N k w (pc + 1) lc (.long (x / y) :: st) n C Q) : gj_G md d K N k w pc lc (.long y :: .long x :: st) n C Q := by
  intro p l e R s m args below meth c s0 a0 dC dI dA H locs ad ls cx ro hK hP hD hS oC sc ol hl
  exact lv_ldiv cx.1 cx.2.1 hd hne (kk p l e R s m args below meth c s0 a0 dC dI dA H locs ad ls cx ro hK hP hD hS oC sc (gj_ol_push (gj_ol_pop (gj_ol_pop ol)) trivial) hl)
theorem gj_lrem {x y : Int64} (hd : decode md.2.1 pc = .ok (.lrem, 1)) (hne : ¬ y = 0) (kk : gj_G md d K N k w (pc + 1) lc (.long (x - x / y * y) :: st) n C Q) : gj_G md d K N k w pc lc (.long y :: .long x :: st) n C Q := by
  intro p l e R s m args below meth c s0 a0 dC dI dA H locs ad ls cx ro hK hP hD hS oC sc ol hl
  exact lv_lrem cx.1 cx.2.1 hd hne (kk p l e R s m args below meth c s0 a0 dC dI dA H locs ad ls cx ro hK hP hD hS oC sc (gj_ol_push (gj_ol_pop (gj_ol_pop ol)) trivial) hl)
theorem gj_lcmp {x y : Int64} (hd : decode md.2.1 pc = .ok (.lcmp, 1)) (kk : gj_G md d K N k w (pc + 1) lc (.int (lg_cmp x y) :: st) n C Q) : gj_G md d K N k w pc lc (.long y :: .long x :: st) n C Q := by
  intro p l e R s m args below meth c s0 a0 dC dI dA H locs ad ls cx ro hK hP hD hS oC sc ol hl
  exact W.lcmp cx.1 cx.2.1 hd (kk p l e R s m args below meth c s0 a0 dC dI dA H locs ad ls cx ro hK hP hD hS oC sc (gj_ol_push (gj_ol_pop (gj_ol_pop ol)) trivial) hl)
theorem gj_ineg {x : Int32} (hd : decode md.2.1 pc = .ok (.ineg, 1)) (kk : gj_G md d K N k w (pc + 1) lc (.int (-x) :: st) n C Q) : gj_G md d K N k w pc lc (.int x :: st) n C Q := by
  intro p l e R s m args below meth c s0 a0 dC dI dA H locs ad ls cx ro hK hP hD hS oC sc ol hl
  exact lv_ineg cx.1 cx.2.1 hd (kk p l e R s m args below meth c s0 a0 dC dI dA H locs ad ls cx ro hK hP hD hS oC sc (gj_ol_push (gj_ol_pop ol) trivial) hl)
theorem gj_i2l {x : Int32} (hd : decode md.2.1 pc = .ok (.i2l, 1)) (kk : gj_G md d K N k w (pc + 1) lc (.long x.toInt64 :: st) n C Q) : gj_G md d K N k w pc lc (.int x :: st) n C Q := by
  intro p l e R s m args below meth c s0 a0 dC dI dA H locs ad ls cx ro hK hP hD hS oC sc ol hl
  exact lv_i2l cx.1 cx.2.1 hd rfl (kk p l e R s m args below meth c s0 a0 dC dI dA H locs ad ls cx ro hK hP hD hS oC sc (gj_ol_push (gj_ol_pop ol) trivial) hl)
theorem gj_l2i {x : Int64} (hd : decode md.2.1 pc = .ok (.l2i, 1)) (kk : gj_G md d K N k w (pc + 1) lc (.int x.toInt32 :: st) n C Q) : gj_G md d K N k w pc lc (.long x :: st) n C Q := by
  intro p l e R s m args below meth c s0 a0 dC dI dA H locs ad ls cx ro hK hP hD hS oC sc ol hl
  exact lv_l2i cx.1 cx.2.1 hd rfl (kk p l e R s m args below meth c s0 a0 dC dI dA H locs ad ls cx ro hK hP hD hS oC sc (gj_ol_push (gj_ol_pop ol) trivial) hl)
theorem gj_dup {v : Value} (hd : decode md.2.1 pc = .ok (.dup, 1)) (hv : v.category = 1) (kk : gj_G md d K N k w (pc + 1) lc (v :: v :: st) n C Q) : gj_G md d K N k w pc lc (v :: st) n C Q := by
  intro p l e R s m args below meth c s0 a0 dC dI dA H locs ad ls cx ro hK hP hD hS oC sc ol hl
  exact lv_dup cx.1 cx.2.1 hd ((gj_cat ad v).trans hv) (kk p l e R s m args below meth c s0 a0 dC dI dA H locs ad ls cx ro hK hP hD hS oC sc (gj_ol_push ol (ol.2 v List.mem_cons_self)) hl)
theorem gj_pop {v : Value} (hd : decode md.2.1 pc = .ok (.pop, 1)) (hv : v.category = 1) (kk : gj_G md d K N k w (pc + 1) lc (st) n C Q) : gj_G md d K N k w pc lc (v :: st) n C Q := by
  intro p l e R s m args below meth c s0 a0 dC dI dA H locs ad ls cx ro hK hP hD hS oC sc ol hl
  exact lv_pop cx.1 cx.2.1 hd ((gj_cat ad v).trans hv) (kk p l e R s m args below meth c s0 a0 dC dI dA H locs ad ls cx ro hK hP hD hS oC sc (gj_ol_pop ol) hl)
theorem gj_dup_x1 {v u : Value} (hd : decode md.2.1 pc = .ok (.dup_x1, 1)) (hv : v.category = 1) (hu : u.category = 1) (kk : gj_G md d K N k w (pc + 1) lc (v :: u :: v :: st) n C Q) : gj_G md d K N k w pc lc (v :: u :: st) n C Q := by
  intro p l e R s m args below meth c s0 a0 dC dI dA H locs ad ls cx ro hK hP hD hS oC sc ol hl
  exact lv_dup_x1 cx.1 cx.2.1 hd ((gj_cat ad v).trans hv) ((gj_cat ad u).trans hu) (kk p l e R s m args below meth c s0 a0 dC dI dA H locs ad ls cx ro hK hP hD hS oC sc (gj_ol_push (gj_ol_push (gj_ol_push (gj_ol_pop (gj_ol_pop ol)) (ol.2 v List.mem_cons_self)) (ol.2 u (List.mem_cons_of_mem _ List.mem_cons_self))) (ol.2 v List.mem_cons_self)) hl)
theorem gj_dup2 {v u : Value} (hd : decode md.2.1 pc = .ok (.dup2, 1)) (hv : v.category = 1) (hu : u.category = 1) (kk : gj_G md d K N k w (pc + 1) lc (v :: u :: v :: u :: st) n C Q) : gj_G md d K N k w pc lc (v :: u :: st) n C Q := by
  intro p l e R s m args below meth c s0 a0 dC dI dA H locs ad ls cx ro hK hP hD hS oC sc ol hl
  exact lv_dup2_11 cx.1 cx.2.1 hd ((gj_cat ad v).trans hv) ((gj_cat ad u).trans hu) (kk p l e R s m args below meth c s0 a0 dC dI dA H locs ad ls cx ro hK hP hD hS oC sc (gj_ol_push (gj_ol_push ol (ol.2 u (List.mem_cons_of_mem _ List.mem_cons_self))) (ol.2 v List.mem_cons_self)) hl)
theorem gj_dup_x2 {v u z : Value} (hd : decode md.2.1 pc = .ok (.dup_x2, 1)) (hv : v.category = 1) (hu : u.category = 1) (hz : z.category = 1) (kk : gj_G md d K N k w (pc + 1) lc (v :: u :: z :: v :: st) n C Q) : gj_G md d K N k w pc lc (v :: u :: z :: st) n C Q := by
  intro p l e R s m args below meth c s0 a0 dC dI dA H locs ad ls cx ro hK hP hD hS oC sc ol hl
  exact lv_dup_x2 cx.1 cx.2.1 hd ((gj_cat ad v).trans hv) ((gj_cat ad u).trans hu) ((gj_cat ad z).trans hz) (kk p l e R s m args below meth c s0 a0 dC dI dA H locs ad ls cx ro hK hP hD hS oC sc (gj_ol_push (gj_ol_push (gj_ol_push (gj_ol_push (gj_ol_pop (gj_ol_pop (gj_ol_pop ol))) (ol.2 v List.mem_cons_self)) (ol.2 z (List.mem_cons_of_mem _ (List.mem_cons_of_mem _ List.mem_cons_self)))) (ol.2 u (List.mem_cons_of_mem _ List.mem_cons_self))) (ol.2 v List.mem_cons_self)) hl)
theorem gj_goto {off : Int} {tgt : Nat} (hd : decode md.2.1 pc = .ok (.goto off, 3)) (ht : (pc : Int) + off = (tgt : Int)) (kk : gj_G md d K N k w tgt lc st n C Q) : gj_G md d K N k w pc lc st n C Q := by
  intro p l e R s m args below meth c s0 a0 dC dI dA H locs ad ls cx ro hK hP hD hS oC sc ol hl
  exact lv_goto cx.1 cx.2.1 hd ht (kk p l e R s m args below meth c s0 a0 dC dI dA H locs ad ls cx ro hK hP hD hS oC sc ol hl)
theorem gj_if_eq {x : Int32} {off : Int} {tgt : Nat} (hd : decode md.2.1 pc = .ok (.ifCond .eq off, 3)) (ht : (pc : Int) + off = (tgt : Int)) (kt : x = 0 → gj_G md d K N k w tgt lc st n C Q) (kf : ¬ (x = 0) → gj_G md d K N k w (pc + 3) lc st n C Q) : gj_G md d K N k w pc lc (.int x :: st) n C Q := by
  intro p l e R s m args below meth c s0 a0 dC dI dA H locs ad ls cx ro hK hP hD hS oC sc ol hl
  exact lv_if_eq cx.1 cx.2.1 hd ht (fun h => kt h p l e R s m args below meth c s0 a0 dC dI dA H locs ad ls cx ro hK hP hD hS oC sc (gj_ol_pop ol) hl) (fun h => kf h p l e R s m args below meth c s0 a0 dC dI dA H locs ad ls cx ro hK hP hD hS oC sc (gj_ol_pop ol) hl)
theorem gj_icmp_eq {x y : Int32} {off : Int} {tgt : Nat} (hd : decode md.2.1 pc = .ok (.if_icmp .eq off, 3)) (ht : (pc : Int) + off = (tgt : Int)) (kt : x = y → gj_G md d K N k w tgt lc st n C Q) (kf : ¬ (x = y) → gj_G md d K N k w (pc + 3) lc st n C Q) : gj_G md d K N k w pc lc (.int y :: .int x :: st) n C Q := by
  intro p l e R s m args below meth c s0 a0 dC dI dA H locs ad ls cx ro hK hP hD hS oC sc ol hl
  exact lv_icmp_eq cx.1 cx.2.1 hd ht (fun h => kt h p l e R s m args below meth c s0 a0 dC dI dA H locs ad ls cx ro hK hP hD hS oC sc (gj_ol_pop (gj_ol_pop ol)) hl) (fun h => kf h p l e R s m args below meth c s0 a0 dC dI dA H locs ad ls cx ro hK hP hD hS oC sc (gj_ol_pop (gj_ol_pop ol)) hl)
theorem gj_if_lt {x : Int32} {off : Int} {tgt : Nat} (hd : decode md.2.1 pc = .ok (.ifCond .lt off, 3)) (ht : (pc : Int) + off = (tgt : Int)) (kt : x < 0 → gj_G md d K N k w tgt lc st n C Q) (kf : ¬ (x < 0) → gj_G md d K N k w (pc + 3) lc st n C Q) : gj_G md d K N k w pc lc (.int x :: st) n C Q := by
  intro p l e R s m args below meth c s0 a0 dC dI dA H locs ad ls cx ro hK hP hD hS oC sc ol hl
  exact lv_if_lt cx.1 cx.2.1 hd ht (fun h => kt h p l e R s m args below meth c s0 a0 dC dI dA H locs ad ls cx ro hK hP hD hS oC sc (gj_ol_pop ol) hl) (fun h => kf h p l e R s m args below meth c s0 a0 dC dI dA H locs ad ls cx ro hK hP hD hS oC sc (gj_ol_pop ol) hl)
theorem gj_icmp_lt {x y : Int32} {off : Int} {tgt : Nat} (hd : decode md.2.1 pc = .ok (.if_icmp .lt off, 3)) (ht : (pc : Int) + off = (tgt : Int)) (kt : x < y → gj_G md d K N k w tgt lc st n C Q) (kf : ¬ (x < y) → gj_G md d K N k w (pc + 3) lc st n C Q) : gj_G md d K N k w pc lc (.int y :: .int x :: st) n C Q := by
  intro p l e R s m args below meth c s0 a0 dC dI dA H locs ad ls cx ro hK hP hD hS oC sc ol hl
  exact lv_icmp_lt cx.1 cx.2.1 hd ht (fun h => kt h p l e R s m args below meth c s0 a0 dC dI dA H locs ad ls cx ro hK hP hD hS oC sc (gj_ol_pop (gj_ol_pop ol)) hl) (fun h => kf h p l e R s m args below meth c s0 a0 dC dI dA H locs ad ls cx ro hK hP hD hS oC sc (gj_ol_pop (gj_ol_pop ol)) hl)
theorem gj_if_ge {x : Int32} {off : Int} {tgt : Nat} (hd : decode md.2.1 pc = .ok (.ifCond .ge off, 3)) (ht : (pc : Int) + off = (tgt : Int)) (kt : 0 ≤ x → gj_G md d K N k w tgt lc st n C Q) (kf : ¬ (0 ≤ x) → gj_G md d K N k w (pc + 3) lc st n C Q) : gj_G md d K N k w pc lc (.int x :: st) n C Q := by
  intro p l e R s m args below meth c s0 a0 dC dI dA H locs ad ls cx ro hK hP hD hS oC sc ol hl
  exact lv_if_ge cx.1 cx.2.1 hd ht (fun h => kt h p l e R s m args below meth c s0 a0 dC dI dA H locs ad ls cx ro hK hP hD hS oC sc (gj_ol_pop ol) hl) (fun h => kf h p l e R s m args below meth c s0 a0 dC dI dA H locs ad ls cx ro hK hP hD hS oC sc (gj_ol_pop ol) hl)
theorem gj_icmp_ge {x y : Int32} {off : Int} {tgt : Nat} (hd : decode md.2.1 pc = .ok (.if_icmp .ge off, 3)) (ht : (pc : Int) + off = (tgt : Int)) (kt : y ≤ x → gj_G md d K N k w tgt lc st n C Q) (kf : ¬ (y ≤ x) → gj_G md d K N k w (pc + 3) lc st n C Q) : gj_G md d K N k w pc lc (.int y :: .int x :: st) n C Q := by
  intro p l e R s m args below meth c s0 a0 dC dI dA H locs ad ls cx ro hK hP hD hS oC sc ol hl
  exact lv_icmp_ge cx.1 cx.2.1 hd ht (fun h => kt h p l e R s m args below meth c s0 a0 dC dI dA H locs ad ls cx ro hK hP hD hS oC sc (gj_ol_pop (gj_ol_pop ol)) hl) (fun h => kf h p l e R s m args below meth c s0 a0 dC dI dA H locs ad ls cx ro hK hP hD hS oC sc (gj_ol_pop (gj_ol_pop ol)) hl)
theorem gj_if_gt {x : Int32} {off : Int} {tgt : Nat} (hd : decode md.2.1 pc = .ok (.ifCond .gt off, 3)) (ht : (pc : Int) + off = (tgt : Int)) (kt : 0 < x → gj_G md d K N k w tgt lc st n C Q) (kf : ¬ (0 < x) → gj_G md d K N k w (pc + 3) lc st n C Q) : gj_G md d K N k w pc lc (.int x :: st) n C Q := by
  intro p l e R s m args below meth c s0 a0 dC dI dA H locs ad ls cx ro hK hP hD hS oC sc ol hl
  exact lv_if_gt cx.1 cx.2.1 hd ht (fun h => kt h p l e R s m args below meth c s0 a0 dC dI dA H locs ad ls cx ro hK hP hD hS oC sc (gj_ol_pop ol) hl) (fun h => kf h p l e R s m args below meth c s0 a0 dC dI dA H locs ad ls cx ro hK hP hD hS oC sc (gj_ol_pop ol) hl)
theorem gj_icmp_gt {x y : Int32} {off : Int} {tgt : Nat} (hd : decode md.2.1 pc = .ok (.if_icmp .gt off, 3)) (ht : (pc : Int) + off = (tgt : Int)) (kt : y < x → gj_G md d K N k w tgt lc st n C Q) (kf : ¬ (y < x) → gj_G md d K N k w (pc + 3) lc st n C Q) : gj_G md d K N k w pc lc (.int y :: .int x :: st) n C Q := by
  intro p l e R s m args below meth c s0 a0 dC dI dA H locs ad ls cx ro hK hP hD hS oC sc ol hl
  exact lv_icmp_gt cx.1 cx.2.1 hd ht (fun h => kt h p l e R s m args below meth c s0 a0 dC dI dA H locs ad ls cx ro hK hP hD hS oC sc (gj_ol_pop (gj_ol_pop ol)) hl) (fun h => kf h p l e R s m args below meth c s0 a0 dC dI dA H locs ad ls cx ro hK hP hD hS oC sc (gj_ol_pop (gj_ol_pop ol)) hl)
theorem gj_if_le {x : Int32} {off : Int} {tgt : Nat} (hd : decode md.2.1 pc = .ok (.ifCond .le off, 3)) (ht : (pc : Int) + off = (tgt : Int)) (kt : x ≤ 0 → gj_G md d K N k w tgt lc st n C Q) (kf : ¬ (x ≤ 0) → gj_G md d K N k w (pc + 3) lc st n C Q) : gj_G md d K N k w pc lc (.int x :: st) n C Q := by
  intro p l e R s m args below meth c s0 a0 dC dI dA H locs ad ls cx ro hK hP hD hS oC sc ol hl
  exact lv_if_le cx.1 cx.2.1 hd ht (fun h => kt h p l e R s m args below meth c s0 a0 dC dI dA H locs ad ls cx ro hK hP hD hS oC sc (gj_ol_pop ol) hl) (fun h => kf h p l e R s m args below meth c s0 a0 dC dI dA H locs ad ls cx ro hK hP hD hS oC sc (gj_ol_pop ol) hl)
theorem gj_icmp_le {x y : Int32} {off : Int} {tgt : Nat} (hd : decode md.2.1 pc = .ok (.if_icmp .le off, 3)) (ht : (pc : Int) + off = (tgt : Int)) (kt : x ≤ y → gj_G md d K N k w tgt lc st n C Q) (kf : ¬ (x ≤ y) → gj_G md d K N k w (pc + 3) lc st n C Q) : gj_G md d K N k w pc lc (.int y :: .int x :: st) n C Q := by
  intro p l e R s m args below meth c s0 a0 dC dI dA H locs ad ls cx ro hK hP hD hS oC sc ol hl
  exact lv_icmp_le cx.1 cx.2.1 hd ht (fun h => kt h p l e R s m args below meth c s0 a0 dC dI dA H locs ad ls cx ro hK hP hD hS oC sc (gj_ol_pop (gj_ol_pop ol)) hl) (fun h => kf h p l e R s m args below meth c s0 a0 dC dI dA H locs ad ls cx ro hK hP hD hS oC sc (gj_ol_pop (gj_ol_pop ol)) hl)
theorem gj_if_ne {x : Int32} {off : Int} {tgt : Nat} (hd : decode md.2.1 pc = .ok (.ifCond .ne off, 3)) (ht : (pc : Int) + off = (tgt : Int)) (kt : ¬ x = 0 → gj_G md d K N k w tgt lc st n C Q) (kf : x = 0 → gj_G md d K N k w (pc + 3) lc st n C Q) : gj_G md d K N k w pc lc (.int x :: st) n C Q := by
  intro p l e R s m args below meth c s0 a0 dC dI dA H locs ad ls cx ro hK hP hD hS oC sc ol hl
  exact lv_if_ne cx.1 cx.2.1 hd ht (fun h => kt h p l e R s m args below meth c s0 a0 dC dI dA H locs ad ls cx ro hK hP hD hS oC sc (gj_ol_pop ol) hl) (fun h => kf h p l e R s m args below meth c s0 a0 dC dI dA H locs ad ls cx ro hK hP hD hS oC sc (gj_ol_pop ol) hl)
theorem gj_icmp_ne {x y : Int32} {off : Int} {tgt : Nat} (hd : decode md.2.1 pc = .ok (.if_icmp .ne off, 3)) (ht : (pc : Int) + off = (tgt : Int)) (kt : ¬ x = y → gj_G md d K N k w tgt lc st n C Q) (kf : x = y → gj_G md d K N k w (pc + 3) lc st n C Q) : gj_G md d K N k w pc lc (.int y :: .int x :: st) n C Q := by
  intro p l e R s m args below meth c s0 a0 dC dI dA H locs ad ls cx ro hK hP hD hS oC sc ol hl
  exact lv_icmp_ne cx.1 cx.2.1 hd ht (fun h => kt h p l e R s m args below meth c s0 a0 dC dI dA H locs ad ls cx ro hK hP hD hS oC sc (gj_ol_pop (gj_ol_pop ol)) hl) (fun h => kf h p l e R s m args below meth c s0 a0 dC dI dA H locs ad ls cx ro hK hP hD hS oC sc (gj_ol_pop (gj_ol_pop ol)) hl)
theorem gj_ifnull {x : Nat} {off : Int} (hd : decode md.2.1 pc = .ok (.ifnull off, 3)) (kk : gj_G md d K N k w (pc + 3) lc (st) n C Q) : gj_G md d K N k w pc lc (.ref x :: st) n C Q := by
  intro p l e R s m args below meth c s0 a0 dC dI dA H locs ad ls cx ro hK hP hD hS oC sc ol hl
  exact lv_ifnull cx.1 cx.2.1 hd (kk p l e R s m args below meth c s0 a0 dC dI dA H locs ad ls cx ro hK hP hD hS oC sc (gj_ol_pop ol) hl)
theorem gj_ifnonnullN {off : Int} (hd : decode md.2.1 pc = .ok (.ifnonnull off, 3)) (kk : gj_G md d K N k w (pc + 3) lc (st) n C Q) : gj_G md d K N k w pc lc (.null :: st) n C Q := by
  intro p l e R s m args below meth c s0 a0 dC dI dA H locs ad ls cx ro hK hP hD hS oC sc ol hl
  exact lv_ifnonnullN cx.1 cx.2.1 hd (kk p l e R s m args below meth c s0 a0 dC dI dA H locs ad ls cx ro hK hP hD hS oC sc (gj_ol_pop ol) hl)
theorem gj_ifnonnull {x : Nat} {off : Int} {tgt : Nat} (hd : decode md.2.1 pc = .ok (.ifnonnull off, 3)) (ht : (pc : Int) + off = (tgt : Int)) (kk : gj_G md d K N k w tgt lc st n C Q) : gj_G md d K N k w pc lc (.ref x :: st) n C Q := by
  intro p l e R s m args below meth c s0 a0 dC dI dA H locs ad ls cx ro hK hP hD hS oC sc ol hl
  exact lv_ifnonnull cx.1 cx.2.1 hd ht (kk p l e R s m args below meth c s0 a0 dC dI dA H locs ad ls cx ro hK hP hD hS oC sc (gj_ol_pop ol) hl)
theorem gj_ifnullN {off : Int} {tgt : Nat} (hd : decode md.2.1 pc = .ok (.ifnull off, 3)) (ht : (pc : Int) + off = (tgt : Int)) (kk : gj_G md d K N k w tgt lc st n C Q) : gj_G md d K N k w pc lc (.null :: st) n C Q := by
  intro p l e R s m args below meth c s0 a0 dC dI dA H locs ad ls cx ro hK hP hD hS oC sc ol hl
  exact lv_ifnullN cx.1 cx.2.1 hd ht (kk p l e R s m args below meth c s0 a0 dC dI dA H locs ad ls cx ro hK hP hD hS oC sc (gj_ol_pop ol) hl)
theorem gj_lookup {dflt off : Int} {ps : Array (Int × Int)} {len tgt : Nat} {x : Int32} (hd : decode md.2.1 pc = .ok (.lookupswitch dflt ps, len)) (hp : (ps.toList.zip (ps.toList.drop 1)).all (fun (a, next) => a.1 < next.1) = true) (ho : Op.lookupswitch.offset ps.toList dflt x.toInt = off) (ht : (pc : Int) + off = (tgt : Int)) (kk : gj_G md d K N k w tgt lc st n C Q) : gj_G md d K N k w pc lc (.int x :: st) n C Q := by
  intro p l e R s m args below meth c s0 a0 dC dI dA H locs ad ls cx ro hK hP hD hS oC sc ol hl
  exact lv_lookup cx.1 cx.2.1 hd hp ho ht (kk p l e R s m args below meth c s0 a0 dC dI dA H locs ad ls cx ro hK hP hD hS oC sc (gj_ol_pop ol) hl)
theorem gj_tableOut {dflt lo hi : Int} {offs : Array Int} {len tgt : Nat} {x : Int32} (hd : decode md.2.1 pc = .ok (.tableswitch dflt lo hi offs, len)) (h : x.toInt < lo ∨ hi < x.toInt) (ht : (pc : Int) + dflt = (tgt : Int)) (kk : gj_G md d K N k w tgt lc st n C Q) : gj_G md d K N k w pc lc (.int x :: st) n C Q := by
  intro p l e R s m args below meth c s0 a0 dC dI dA H locs ad ls cx ro hK hP hD hS oC sc ol hl
  exact lv_tableOut cx.1 cx.2.1 hd h ht (kk p l e R s m args below meth c s0 a0 dC dI dA H locs ad ls cx ro hK hP hD hS oC sc (gj_ol_pop ol) hl)
theorem gj_tableIn {dflt lo hi off : Int} {offs : Array Int} {len tgt : Nat} {x : Int32} (hd : decode md.2.1 pc = .ok (.tableswitch dflt lo hi offs, len)) (h1 : ¬ x.toInt < lo) (h2 : ¬ hi < x.toInt) (ho : offs[(x.toInt - lo).toNat]? = some off) (ht : (pc : Int) + off = (tgt : Int)) (kk : gj_G md d K N k w tgt lc st n C Q) : gj_G md d K N k w pc lc (.int x :: st) n C Q := by
  intro p l e R s m args below meth c s0 a0 dC dI dA H locs ad ls cx ro hK hP hD hS oC sc ol hl
  exact lv_tableIn cx.1 cx.2.1 hd h1 h2 ho ht (kk p l e R s m args below meth c s0 a0 dC dI dA H locs ad ls cx ro hK hP hD hS oC sc (gj_ol_pop ol) hl)
theorem gj_ldc {ix : Nat} {v : Int32} (hd : decode md.2.1 pc = .ok (.ldc ix, 2)) (hw : Cond.constant md.1.cls ix v ∈ lw_tbl) (kk : gj_G md d K N k w (pc + 2) lc (.int v :: st) n C Q) : gj_G md d K N k w pc lc st n C Q := by
  intro p l e R s m args below meth c s0 a0 dC dI dA H locs ad ls cx ro hK hP hD hS oC sc ol hl
  exact lv_ldc cx.1 cx.2.1 cx.2.2.2.2.2.2.2.2.1 (gj_word cx hw rfl) hd (kk p l e R s m args below meth c s0 a0 dC dI dA H locs ad ls cx ro hK hP hD hS oC sc (gj_ol_push ol trivial) hl)
theorem gj_ldcw {ix : Nat} {v : Int32} (hd : decode md.2.1 pc = .ok (.ldc_w ix, 3)) (hw : Cond.constant md.1.cls ix v ∈ lw_tbl) (kk : gj_G md d K N k w (pc + 3) lc (.int v :: st) n C Q) : gj_G md d K N k w pc lc st n C Q := by
  intro p l e R s m args below meth c s0 a0 dC dI dA H locs ad ls cx ro hK hP hD hS oC sc ol hl
  exact lv_ldcw cx.1 cx.2.1 cx.2.2.2.2.2.2.2.2.1 (gj_word cx hw rfl) hd (kk p l e R s m args below meth c s0 a0 dC dI dA H locs ad ls cx ro hK hP hD hS oC sc (gj_ol_push ol trivial) hl)
theorem gj_ldc2 {ix : Nat} {v : Int64} (hd : decode md.2.1 pc = .ok (.ldc2_w ix, 3)) (hw : Cond.constantLong md.1.cls ix v ∈ lw_tbl) (kk : gj_G md d K N k w (pc + 3) lc (.long v :: st) n C Q) : gj_G md d K N k w pc lc st n C Q := by
  intro p l e R s m args below meth c s0 a0 dC dI dA H locs ad ls cx ro hK hP hD hS oC sc ol hl
  exact lv_ldc2 cx.1 cx.2.1 cx.2.2.2.2.2.2.2.2.1 (gj_word cx hw rfl) hd (kk p l e R s m args below meth c s0 a0 dC dI dA H locs ad ls cx ro hK hP hD hS oC sc (gj_ol_push ol trivial) hl)
end
