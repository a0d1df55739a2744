/-! EXCEPTIONS: out of the method; caught in it; made and thrown -/
section
variable {md : gj_M} {d K N k w pc : Nat} {lc : List (Nat × Value)} {st : List Value} {n : Nat} {C : Nat → va_E} {Q : gj_R → Prop} {E : String}
theorem gj_xout (hout : (tableOf md.2.2.2.2).all (fun x => !covers x pc) = true) (hk : k ≤ K) (hw : w ≤ N) (hQ : Q (.inr E, n, C)) : gj_GX md d K N k w pc lc E n C Q := by
  intro p l e R s m args below meth c s0 a0 dC dI dA H locs ad ls rs q ce cx ro hK hP hD hS oC sc ov hl hce hcv hcl T hT X
  obtain ⟨st1, hrun, hend, hW, hsm⟩ := X.leaveThrown q (g := F0 m pc ls rs) rfl rfl rfl (outside_of_table cx.2.2.2.2.2.2.2.2.2.2.2 hout) cx.2.2.2.2.2.2.2.2.2.1
  have hh : (T.setFrames (.throwing q :: below)).heap = H := hT
  refine ⟨_, st1, .threw q, locs, .inr E, n, C, ad, hrun, hend, hW, hsm.mono hk hw, hS.2.2, ?_, hQ, ⟨q, ce, rfl, by rw [hh]; exact hce, hcv, hcl⟩, trivial, Nat.le_refl n, fun _ _ => rfl, rfl, by rw [hh]; exact hP, hD, oC⟩
  rw [hh]
  exact ⟨Nat.le_trans cx.2.2.2.2.2.1.1 hS.1, fun q hq => by rw [hS.2.1 q (Nat.lt_of_lt_of_le hq cx.2.2.2.2.2.1.1) (Nat.not_le.mpr hq)]; exact cx.2.2.2.2.2.1.2 q hq⟩
/-- where the search through a table's rows ends -/
def gj_sr (pl : Platform) (s : State) (own : ClassId) (pc : Nat) (thrown : ClassId) : List ExceptionTableEntry → Nat → Prop
  | [], _ => False
  | y :: r, h => (covers y pc = false ∧ gj_sr pl s own pc thrown r h) ∨ (covers y pc = true ∧ y.catchType ≠ 0 ∧ ∃ c, s.vm.ClassLinks pl own y.catchType c ∧ ((s.vm.assignable thrown c = true ∧ y.handlerPc = h) ∨ (s.vm.assignable thrown c = false ∧ gj_sr pl s own pc thrown r h)))
theorem gj_fh {e : Env} {S : State} {f : JFrame} {a : Addr} {Q : Handler → Pre} {E : CtlPost} {d : Bool} {acts : List Action} {x : ExceptionTableEntry} {t : List ExceptionTableEntry} {c : ClassId} {cell : Cell} (hx : covers x f.pc = true) (h0 : x.catchType ≠ 0)
    (hl : S.vm.ClassLinks e.platform f.method.cls x.catchType c) (hcell : S.heap[a]? = some cell) (hobj : ∀ k, cell.vm ≠ .statics k) (hk : ∃ k, S.vm.classes[cell.cls]? = some k) (hc : ∃ k, S.vm.classes[c]? = some k) :
    wp (findHandler.go f a (x :: t)) Q E e d acts S ↔ if S.vm.assignable cell.cls c = true then Q (.found x.handlerPc) d acts (S.setVm (S.vm.noted f.method.cls x.catchType (.cls c))) else wp (findHandler.go f a t) Q E e d acts (S.setVm (S.vm.noted f.method.cls x.catchType (.cls c))) := by
  simp only [covers] at hx
  obtain ⟨ha, ht⟩ := (resolveClass_links e.toSetting hl).op (op := VmOp.resolveClass f.method.cls x.catchType) rfl
  have hal : S.vm.Alike (S.vm.noted f.method.cls x.catchType (.cls c)) := (Vm.Alike.refl S.vm).noted _ _ _
  obtain ⟨k1, hk1⟩ := hk
  obtain ⟨k2, hk2⟩ := hc
  obtain ⟨k1', hk1', -⟩ := hal.2.2 _ _ hk1
  obtain ⟨k2', hk2', -⟩ := hal.2.2 _ _ hk2
  have has : (S.vm.noted f.method.cls x.catchType (.cls c)).assignable cell.cls c = S.vm.assignable cell.cls c := hal.assignable ..
  cases hfit : S.vm.assignable cell.cls c <;> rw [hfit] at has <;>
    simp [findHandler.go, hx, h0, ha, ht, hcell, hobj, hk1', hk2', has, VmOp.dirties, VmOp.acts]
theorem gj_search {e : Env} {s : State} {f : JFrame} {a : Addr} {cell : Cell} {h : Nat} (hobj : ∀ k, cell.vm ≠ .statics k) (hk0 : ∃ k, s.vm.classes[cell.cls]? = some k) :
    ∀ (rows : List ExceptionTableEntry) (S : State), s.WarmedH S.vm → S.heap[a]? = some cell → gj_sr e.platform s f.method.cls f.pc cell.cls rows h →
      ∃ vm', s.WarmedH vm' ∧ ∀ (Q : Handler → Pre) (E : CtlPost) (d : Bool) (acts : List Action), wp (findHandler.go f a rows) Q E e d acts S ↔ Q (.found h) d acts (S.setVm vm')
  | [], _, _, _, hs => hs.elim
  | y :: r, S, hW, hcell, hs => by
    rcases hs with ⟨hc, hs⟩ | ⟨hc, h0, c, hl, hs⟩
    · obtain ⟨vm', hW', hq⟩ := gj_search hobj hk0 r S hW hcell hs
      exact ⟨vm', hW', fun Q E d acts => by rw [W.findHandler_go_skip hc]; exact hq Q E d acts⟩
    · obtain ⟨k0, hk0'⟩ := id hk0
      obtain ⟨k1, hk1, -⟩ := hW.alike.2.2 _ _ hk0'
      obtain ⟨dk, _, _, kt, hd, _, _, _, _, hkt, _, hopen⟩ := hl.here
      obtain ⟨kt', hkt', -⟩ := hW.alike.2.2 _ _ hkt
      have hW2 := hW.noted hd hopen (State.rightAt_cls hl)
      have hrow := fun (Q : Handler → Pre) (E : CtlPost) (d : Bool) (acts : List Action) => gj_fh (t := r) (Q := Q) (E := E) (d := d) (acts := acts) hc h0 (hW.classLinks hl) hcell hobj ⟨k1, hk1⟩ ⟨kt', hkt'⟩
      rcases hs with ⟨hf, hh⟩ | ⟨hf, hs⟩
      · exact ⟨_, hW2, fun Q E d acts => by rw [hrow, if_pos (by rw [hW.alike.assignable]; exact hf), hh]⟩
      · obtain ⟨vm', hW', hq⟩ := gj_search hobj hk0 r (S.setVm (S.vm.noted f.method.cls y.catchType (.cls c))) hW2 hcell hs
        exact ⟨vm', hW', fun Q E d acts => by
          rw [hrow, if_neg (by rw [hW.alike.assignable, hf]; decide)]
          exact hq Q E d acts⟩
theorem gj_caught {tb : Tables} {e : Env} {T target : State} {g : JFrame} {c : Code} {below : List Frame} {a : Addr} (h : At T g.method c below) {pc : Nat} {vm' : Vm}
    (hfind : ∀ (Q : Handler → Pre) (E : CtlPost) (d : Bool) (acts : List Action), wp (findHandler g a) Q E e d acts ((T.setTop g).pushFrame (.throwing a)) ↔ Q (.found pc) d acts (((T.setTop g).pushFrame (.throwing a)).setVm vm'))
    (hrest : Steps tb e below ((T.setVm vm').setTop { g with pc := pc, stack := [.ref a] }) target) : Steps tb e below ((T.setTop g).pushFrame (.throwing a)) target := by
  obtain ⟨hgo, hw⟩ := h.throwing a
  obtain ⟨g₀, hg⟩ := Option.isSome_iff_exists.mp h.top
  obtain ⟨r, hr⟩ := State.topJava?_eq_some.mp hg
  have hr' : (T.setVm vm').frames = .java g₀ :: r := hr
  have key : (stepThrowing e ((T.setTop g).pushFrame (.throwing a)) a (.java g :: T.frames.tail)).Is ((((T.setTop g).pushFrame (.throwing a)).setVm vm').setFrames (.java { g with pc := pc, stack := [.ref a] } :: T.frames.tail)) [] := by
    simp only [stepThrowing, searchFrame, vmDo]
    generalize hres : Sem.go _ e false [] ((T.setTop g).pushFrame (.throwing a)) = res
    obtain ⟨as, rfl, ha⟩ := Sem.eq_ok_of hres (a := Handler.found pc) (s' := ((T.setTop g).pushFrame (.throwing a)).setVm vm') (acts' := []) (by simp [hfind _ _ _ _])
    exact ⟨rfl, ha⟩
  refine Steps.head hgo hw ?_
  rw [stepThread_throwing (frames_entered h.top _), key.1]
  have e1 : ((((T.setTop g).pushFrame (.throwing a)).setVm vm').setFrames (.java { g with pc := pc, stack := [.ref a] } :: T.frames.tail)) = (T.setVm vm').setTop { g with pc := pc, stack := [.ref a] } := by
    rw [State.setTop_of_frames _ hr', hr, State.pushFrame, State.setTop_of_frames _ hr, State.setFrames_setFrames]
    exact State.setFrames_setFrames (T.setVm vm') _ _
  rw [e1]
  exact hrest
/-- .. by the words: which row of the method's own table takes the exception -/
def gj_hs (own E : String) (pc : Nat) : List (Nat × Nat × Nat × Nat) → Nat → Prop
  | [], _ => False
  | y :: r, h => covers ⟨y.1, y.2.1, y.2.2.1, y.2.2.2⟩ pc = true ∧ y.2.2.2 ≠ 0 ∧ ∃ nm : String, Cond.classLink own y.2.2.2 nm ∈ lw_tbl ∧ ((Cond.castable E nm ∈ lw_tbl ∧ y.2.2.1 = h) ∨ (Cond.not (.castable E nm) ∈ gj_nar ∧ gj_hs own E pc r h))
theorem gj_hs_sr {p : Program} {l : Launch} {e : Env} {s : State} {m : MethodId} {meth : Method} {c : Code} {s0 : State} {a0 : Array Value} (cx : gj_Cx md p l s m meth c s0 a0) (hpl : e.platform.magicAccessors = ({} : Platform).magicAccessors) {thrown : ClassId} (hE : s.vm.findClass E = some thrown) {h : Nat} :
    ∀ hh : List (Nat × Nat × Nat × Nat), gj_hs md.1.cls E pc hh h → gj_sr e.platform s m.cls pc thrown (tableOf hh) h
  | [], hs => hs.elim
  | y :: r, hs => by
    obtain ⟨h1, h2, nm, h3, h4⟩ := hs
    obtain ⟨c5, hc5, hcl5⟩ := Cond.classLink_spec cx.2.2.2.2.2.2.2.2.1 (gj_word (args := a0) cx h3 rfl) e.platform hpl
    refine Or.inr ⟨h1, h2, c5, hcl5, ?_⟩
    rcases h4 with ⟨h5, h6⟩ | ⟨h5, h6⟩
    · obtain ⟨c3, c4, hc3, hc4, hasg⟩ := Cond.castable_spec (va_Nw.use (A := a0) rfl (va_Nw.warmC cx.2.2.2.2.1 (va_Nw.of rfl (cx.2.2.2.1.1 _ h5))))
      cases Option.some.inj (hc3.symm.trans hE)
      cases Option.some.inj (hc4.symm.trans hc5)
      exact Or.inl ⟨hasg, h6⟩
    · obtain ⟨a8, b8, q1, q2, q3⟩ := va_Nc.moved cx.2.2.2.2.1.alike (va_Nc.of (flat_of_before _ cx.2.2.2.1.2 _ h5))
      cases Option.some.inj (q1.symm.trans hE)
      cases Option.some.inj (q2.symm.trans hc5)
      exact Or.inr ⟨q3, gj_hs_sr cx hpl hE r h6⟩
def gj_rm (lc : List (Nat × Value)) (i : Nat) : List (Nat × Value) := lc.filter (fun q => !(q.1 == i) && !(q.1 + 1 == i && q.2.category == 2))
theorem gj_tl_rm {ad : Nat → Nat} {i : Nat} : (gj_tl ad lc).filter (fun q => !(q.1 == i) && !(q.1 + 1 == i && q.2.category == 2)) = gj_tl ad (gj_rm lc i) := by
  unfold gj_tl gj_rm
  rw [List.filter_map]
  congr 1
  refine List.filter_congr fun q _ => ?_
  simp [gj_cat]
theorem gj_xcatch {hpc i ln : Nat} (hh : gj_hs md.1.cls E pc md.2.2.2.2 hpc) (hd : (∃ j : Fin 4, (j : Nat) = i ∧ ln = 1 ∧ decode md.2.1 hpc = .ok (.astore_n j, 1)) ∨ (ln = 2 ∧ decode md.2.1 hpc = .ok (.astore i, 2))) (hi : i < md.2.2.1) (kk : gj_G md d K N k w (hpc + ln) (gj_rm lc i) [] n C Q) : gj_GX md d K N k w pc lc E n C Q := by
  intro p l e R s m args below meth c s0 a0 dC dI dA H locs ad ls rs q ce cx ro hK hP hD hS oC sc ov hl hce hcv hcl T hT X
  have hpl : e.platform.magicAccessors = ({} : Platform).magicAccessors := by rw [X.admits.platform]
  have hobj : ∀ k, ce.vm ≠ .statics k := fun k h => by rw [hcv] at h; cases h
  obtain ⟨k9, h9, -⟩ := Vm.findClass_spec hcl
  obtain ⟨vm', hW', hq⟩ := gj_search (e := e) (f := F0 m pc ls rs) (a := q) (cell := ce) (h := hpc) hobj ⟨k9, h9⟩ (tableOf md.2.2.2.2) ((T.setTop (F0 m pc ls rs)).pushFrame (.throwing q)) X.warmed (by rw [throwing_heap, hT]; exact hce) (gj_hs_sr cx hpl hcl _ hh)
  have hrest : ∀ (ls' : Array Slot), lv_has ls' md.2.2.1 ((i, .ref q) :: gj_tl ad (gj_rm lc i)) → W p l e R s m args below meth c H locs k w (gj_E below s s0 dC dI dA ad (C 0) n K N Q) (F0 m (hpc + ln) ls' []) := fun ls' hl' =>
    kk p l e R s m args below meth c s0 a0 dC dI dA H locs ad ls' cx ro hK hP hD hS oC sc ⟨fun z hz => ov z (List.mem_filter.mp hz).1, fun v hv => nomatch hv⟩ ⟨hl'.1, hl'.2.1, fun z hz => hl'.2.2 z (List.mem_cons_of_mem _ hz)⟩
  have hW : W p l e R s m args below meth c H locs k w (gj_E below s s0 dC dI dA ad (C 0) n K N Q) (F0 m hpc ls [.ref q]) := by
    rcases hd with ⟨j, hj, rfl, hd⟩ | ⟨rfl, hd⟩
    · exact lv_astore_n cx.1 cx.2.1 hd hj hl hi (by rw [gj_tl_rm]) hrest
    · exact lv_astore cx.1 cx.2.1 hd hl hi (by rw [gj_tl_rm]) hrest
  obtain ⟨t, a1, b1⟩ := hW (T.setVm vm') hT (X.noted hW')
  refine ⟨t, gj_caught (g := F0 m pc ls rs) (c := c) X.here (pc := hpc) (vm' := vm') (fun Q E d acts => ?_) a1, b1⟩
  rw [W.findHandler_eq (meth := meth) (code := c) (by rw [throwing_vm]; exact X.method') X.code, cx.2.2.2.2.2.2.2.2.2.2.2]
  exact hq Q E d acts
end
