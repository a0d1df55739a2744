/-! EXCEPTIONS: out of the method; caught in it; made and thrown -/
section
variable {md : gj_M} {d K N k w pc : Nat} {lc : List (Nat × Value)} {st : List Value} {n : Nat} {C : Nat → va_E} {Q : gj_R → Prop} {E : String}
theorem gj_xout (hout : (tableOf md.2.2.2.2).all (fun x => !covers x pc) = true) (hk : k ≤ K) (hw : w ≤ N) (hQ : Q (.inr E, n, C)) : gj_GX md d K N k w pc lc E n C Q := by
  intro p l e R s m args below meth c s0 a0 dC dI dA H locs ad ls rs q ce cx ro hK hP hD hS oC sc ov hl hce hcv hcl T hT X
  obtain ⟨st1, hrun, hend, hW, hsm⟩ := X.leaveThrown q (g := F0 m pc ls rs) rfl rfl rfl (outside_of_table cx.2.2.2.2.2.2.2.2.2.2.2 hout) cx.2.2.2.2.2.2.2.2.2.1
  have hh : (T.setFrames (.throwing q :: below)).heap = H := hT
  refine ⟨_, st1, .threw q, locs, .inr E, n, C, ad, hrun, hend, hW, hsm.mono hk hw, hS.2.2, ?_, hQ, ⟨q, ce, rfl, by rw [hh]; exact hce, hcv, hcl⟩, trivial, Nat.le_refl n, fun _ _ => rfl, rfl, by rw [hh]; exact hP, hD, oC⟩
  rw [hh]
  exact ⟨Nat.le_trans cx.2.2.2.2.2.1.1 hS.1, fun q hq => by rw [hS.2.1 q (Nat.lt_of_lt_of_le hq cx.2.2.2.2.2.1.1) (Nat.not_le.mpr hq)]; exact cx.2.2.2.2.2.1.2 q hq⟩
/-- where the search through a table's rows ends -/
def gj_sr (pl : Platform) (s : State) (own : ClassId) (pc : Nat) (thrown : ClassId) : List ExceptionTableEntry → Nat → Prop
  | [], _ => False
  | y :: r, h => (covers y pc = false ∧ gj_sr pl s own pc thrown r h) ∨ (covers y pc = true ∧ y.catchType ≠ 0 ∧ ∃ c, s.vm.ClassLinks pl own y.catchType c ∧ ((s.vm.assignable thrown c = true ∧ y.handlerPc = h) ∨ (s.vm.assignable thrown c = false ∧ gj_sr pl s own pc thrown r h)))
theorem gj_fh {e : Env} {S : State} {f : JFrame} {a : Addr} {Q : Handler → Pre} {E : CtlPost} {d : Bool} {acts : List Action} {x : ExceptionTableEntry} {t : List ExceptionTableEntry} {c : ClassId} {cell : Cell} (hx : covers x f.pc = true) (h0 : x.catchType ≠ 0)
    (hl : S.vm.ClassLinks e.platform f.method.cls x.catchType c) (hcell : S.heap[a]? = some cell) (hobj : ∀ k, cell.vm ≠ .statics k) (hk : ∃ k, S.vm.classes[cell.cls]? = some k) (hc : ∃ k, S.vm.classes[c]? = some k) :
    wp (findHandler.go f a (x :: t)) Q E e d acts S ↔ if S.vm.assignable cell.cls c = true then Q (.found x.handlerPc) d acts (S.setVm (S.vm.noted f.method.cls x.catchType (.cls c))) else wp (findHandler.go f a t) Q E e d acts (S.setVm (S.vm.noted f.method.cls x.catchType (.cls c))) := by
  simp only [covers] at hx
  obtain ⟨ha, ht⟩ := (resolveClass_links e.toSetting hl).op (op := VmOp.resolveClass f.method.cls x.catchType) rfl
  have hal : S.vm.Alike (S.vm.noted f.method.cls x.catchType (.cls c)) := (Vm.Alike.refl S.vm).noted _ _ _
  obtain ⟨k1, hk1⟩ := hk
  obtain ⟨k2, hk2⟩ := hc
  obtain ⟨k1', hk1', -⟩ := hal.2.2 _ _ hk1
  obtain ⟨k2', hk2', -⟩ := hal.2.2 _ _ hk2
  have has : (S.vm.noted f.method.cls x.catchType (.cls c)).assignable cell.cls c = S.vm.assignable cell.cls c := hal.assignable ..
  cases hfit : S.vm.assignable cell.cls c <;> rw [hfit] at has <;>
    simp [findHandler.go, hx, h0, ha, ht, hcell, hobj, hk1', hk2', has, VmOp.dirties, VmOp.acts]
theorem gj_search {e : Env} {s : State} {f : JFrame} {a : Addr} {cell : Cell} {h : Nat} (hobj : ∀ k, cell.vm ≠ .statics k) (hk0 : ∃ k, s.vm.classes[cell.cls]? = some k) :
    ∀ (rows : List ExceptionTableEntry) (S : State), s.WarmedH S.vm → S.heap[a]? = some cell → gj_sr e.platform s f.method.cls f.pc cell.cls rows h →
      ∃ vm', s.WarmedH vm' ∧ ∀ (Q : Handler → Pre) (E : CtlPost) (d : Bool) (acts : List Action), wp (findHandler.go f a rows) Q E e d acts S ↔ Q (.found h) d acts (S.setVm vm')
  | [], _, _, _, hs => hs.elim
  | y :: r, S, hW, hcell, hs => by
    rcases hs with ⟨hc, hs⟩ | ⟨hc, h0, c, hl, hs⟩
    · obtain ⟨vm', hW', hq⟩ := gj_search hobj hk0 r S hW hcell hs
      exact ⟨vm', hW', fun Q E d acts => by rw [W.findHandler_go_skip hc]; exact hq Q E d acts⟩
    · obtain ⟨k0, hk0'⟩ := id hk0
      obtain ⟨k1, hk1, -⟩ := hW.alike.2.2 _ _ hk0'
      obtain ⟨dk, _, _, kt, hd, _, _, _, _, hkt, _, hopen⟩ := hl.here
      obtain ⟨kt', hkt', -⟩ := hW.alike.2.2 _ _ hkt
      have hW2 := hW.noted hd hopen (State.rightAt_cls hl)
      have hrow := fun (Q : Handler → Pre) (E : CtlPost) (d : Bool) (acts : List Action) => gj_fh (t := r) (Q := Q) (E := E) (d := d) (acts := acts) hc h0 (hW.classLinks hl) hcell hobj ⟨k1, hk1⟩ ⟨kt', hkt'⟩
      rcases hs with ⟨hf, hh⟩ | ⟨hf, hs⟩
      · exact ⟨_, hW2, fun Q E d acts => by rw [hrow, if_pos (by rw [hW.alike.assignable]; exact hf), hh]⟩
      · obtain ⟨vm', hW', hq⟩ := gj_search hobj hk0 r (S.setVm (S.vm.noted f.method.cls y.catchType (.cls c))) hW2 hcell hs
        exact ⟨vm', hW', fun Q E d acts => by
          rw [hrow, if_neg (by rw [hW.alike.assignable, hf]; decide)]
          exact hq Q E d acts⟩
theorem gj_caught {tb : Tables} {e : Env} {T target : State} {g : JFrame} {c : Code} {below : List Frame} {a : Addr} (h : At T g.method c below) {pc : Nat} {vm' : Vm}
    (hfind : ∀ (Q : Handler → Pre) (E : CtlPost) (d : Bool) (acts : List Action), wp (findHandler g a) Q E e d acts ((T.setTop g).pushFrame (.throwing a)) ↔ Q (.found pc) d acts (((T.setTop g).pushFrame (.throwing a)).setVm vm'))
    (hrest : Steps tb e below ((T.setVm vm').setTop { g with pc := pc, stack := [.ref a] }) target) : Steps tb e below ((T.setTop g).pushFrame (.throwing a)) target := by
  obtain ⟨hgo, hw⟩ := h.throwing a
  obtain ⟨g₀, hg⟩ := Option.isSome_iff_exists.mp h.top
  obtain ⟨r, hr⟩ := State.topJava?_eq_some.mp hg
  have hr' : (T.setVm vm').frames = .java g₀ :: r := hr
  have key : (stepThrowing e ((T.setTop g).pushFrame (.throwing a)) a (.java g :: T.frames.tail)).Is ((((T.setTop g).pushFrame (.throwing a)).setVm vm').setFrames (.java { g with pc := pc, stack := [.ref a] } :: T.frames.tail)) [] := by
    simp only [stepThrowing, searchFrame, vmDo]
    generalize hres : Sem.go _ e false [] ((T.setTop g).pushFrame (.throwing a)) = res
    obtain ⟨as, rfl, ha⟩ := Sem.eq_ok_of hres (a := Handler.found pc) (s' := ((T.setTop g).pushFrame (.throwing a)).setVm vm') (acts' := []) (by simp [hfind _ _ _ _])
    exact ⟨rfl, ha⟩
  refine Steps.head hgo hw ?_
  rw [stepThread_throwing (frames_entered h.top _), key.1]
  have e1 : ((((T.setTop g).pushFrame (.throwing a)).setVm vm').setFrames (.java { g with pc := pc, stack := [.ref a] } :: T.frames.tail)) = (T.setVm vm').setTop { g with pc := pc, stack := [.ref a] } := by
    rw [State.setTop_of_frames _ hr', hr, State.pushFrame, State.setTop_of_frames _ hr, State.setFrames_setFrames]
    exact State.setFrames_setFrames ..
  rw [e1]
  exact hrest
end
