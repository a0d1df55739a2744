/-- words that stay true as the tables grow warm, though 'goodWord' doesn't know it -/
def gj_warm : Cond → Bool
  | .castable _ _ => true
  | .declares _ => true
  | _ => false
theorem gj_warm_at {args a' : Array Value} {s U : State} {w : Cond} (hW : s.WarmedH U.vm) (hg : gj_warm w = true) (h : w.before args s = true) : w.before a' U = true := by
  cases w <;> first | (simp [gj_warm] at hg; done) | exact va_Nw.use rfl (va_Nw.warmC hW (va_Nw.of rfl h)) | exact va_Nw.use rfl (va_Nw.warmD hW (va_Nw.of rfl h))
theorem gj_chain_of {args : Array Value} {s : State} {pl : Platform} (hpl : pl.magicAccessors = ({} : Platform).magicAccessors) {cls : String} {ix : Nat} {bytes : ByteArray} (hfit : Bundle.fit cls = true)
    (h0 : decode bytes 0 = .ok (.aload_n 0, 1)) (h1 : decode bytes 1 = .ok (.aload_n 1, 1)) (h2 : decode bytes 2 = .ok (.invokespecial ix, 3)) (h5 : decode bytes 5 = .ok (.return_, 1))
    (h : ∀ w ∈ Bundle.passSAtoms cls "java/lang/RuntimeException" ix bytes ++ Bundle.chainSAtoms "java/lang/RuntimeException" ["java/lang/Exception"], w.before args s = true) : gj_chain cls pl s := by
  intro top htop
  obtain ⟨P, hP, hPm, hPs⟩ := PassC.ofS_atoms (args := args) hpl (Bundle.fit_spec hfit).1 (by decide) h0 h1 h2 h5 (fun w hw => h w (List.mem_append_left _ hw))
  obtain ⟨P1, Ps, hlen, L1, hL, hn, hsup, hpass⟩ := Bundle.chainS (args := args) hpl htop ["java/lang/Exception"] "java/lang/RuntimeException" (by decide) (by decide) (fun w hw => h w (List.mem_append_right _ hw))
  refine ⟨P, P1 :: Ps, by simp [hlen], hP, ?_, hPm, ?_, ?_⟩
  · intro Q hQ
    rcases List.mem_cons.mp hQ with rfl | hQ
    · exact L1
    · exact hL Q hQ
  · exact Option.some.inj (hPs.symm.trans hn)
  · exact ⟨hsup, hpass⟩
def gj_tok2 (own cls text : String) (ik is ic ix : Nat) (bytes : ByteArray) : Prop := Bundle.fit cls = true ∧ Cond.classLink own ik cls ∈ lw_tbl ∧ Cond.initialized cls ∈ lw_tbl ∧ Cond.stringRef own is text ∈ lw_tbl ∧
  (∀ w ∈ (gj_xw own ic cls).filter vx_no ++ (Bundle.passSAtoms cls "java/lang/RuntimeException" ix bytes ++ Bundle.chainSAtoms "java/lang/RuntimeException" ["java/lang/Exception"]), w ∈ lw_tbl ∧ (goodWord w = true ∨ gj_warm w = true)) ∧
  decode bytes 0 = .ok (.aload_n 0, 1) ∧ decode bytes 1 = .ok (.aload_n 1, 1) ∧ decode bytes 2 = .ok (.invokespecial ix, 3) ∧ decode bytes 5 = .ok (.return_, 1)
section
variable {md : gj_M} {d K N k w pc : Nat} {lc : List (Nat × Value)} {st : List Value} {n : Nat} {C : Nat → va_E} {Q : gj_R → Prop}
set_option maxHeartbeats 1000000 in
theorem gj_throw2 {cls text : String} {ik is ic ix : Nat} {bytes : ByteArray} (ht : gj_tok2 md.1.cls cls text ik is ic ix bytes) (d0 : decode md.2.1 pc = .ok (.new ik, 3)) (d3 : decode md.2.1 (pc + 3) = .ok (.dup, 1)) (d4 : decode md.2.1 (pc + 4) = .ok (.ldc is, 2)) (d6 : decode md.2.1 (pc + 6) = .ok (.invokespecial ic, 3)) (d9 : decode md.2.1 (pc + 9) = .ok (.athrow, 1))
    (hout : (tableOf md.2.2.2.2).all (fun x => !covers x (pc + 9)) = true) (hst : (st.map fun v => v.category).sum ≤ 50) (hk : k + 1 ≤ K) (hw : w + 6 ≤ N) (hQ : Q (.inr cls, n, C)) : gj_G md d K N k w pc lc st n C Q := by
  intro p l e R s m args below meth c s0 a0 dC dI dA H locs ad ls cx ro hK hP hD hS oC sc ol hl T hT X
  obtain ⟨hfit, h1, h2, h3, h5, hq0, hq1, hq2, hq5⟩ := ht
  have hexec := cx.1
  have hb := cx.2.1
  have hWs0 := cx.2.2.2.2.1
  have htr : e.platform.stackTraces = false := (show e.platform.stackTraces = l.stackTraces by rw [X.admits.platform]).trans cx.2.2.1
  have Y := vx_rebase X (R' := { frames := R.frames, locals := R.locals, cells := 1, slots := 6 }) (Nat.le_refl _) (Nat.le_refl _) (Nat.le_trans hk ro.2.2.1) (Nat.le_trans hw ro.2.2.2)
  obtain ⟨s', hA⟩ : ∃ z, z = (T.setVm s.vm).setFrames (.invoking m args :: below) := ⟨_, rfl⟩
  rw [← hA] at Y
  have hvm : s'.vm = s.vm := by rw [hA]; rfl
  have hhp : s'.heap = H := by rw [hA]; exact hT
  have hW0 : s.WarmedH s'.vm := by rw [hvm]; exact State.WarmedH.refl s
  have hal : s0.vm.Alike s'.vm := by rw [hvm]; exact hWs0.alike
  have hal1 : ∀ w, w ∈ lw_tbl → (goodWord w = true ∨ gj_warm w = true) → w.before args s' = true := by
    intro w hw hg
    have hs : w.before args s = true := by
      rcases hg with hg | hg
      · exact gj_word cx hw hg
      · exact gj_warm_at hWs0 hg (cx.2.2.2.1.1 _ hw)
    rcases hg with hg | hg
    · exact word_at hW0 (good_of_word hg) hs
    · exact gj_warm_at hW0 hg hs
  have hk' : (Cond.classLink md.1.cls ik cls).before args s' = true := hal1 _ h1 (Or.inl rfl)
  have hini' : (Cond.initialized cls).before args s' = true := hal1 _ h2 (Or.inl rfl)
  have hold : ∀ a : Nat, a < s0.heap.size → ¬ s0.heap.size ≤ a → H[a]? = s0.heap[a]? := fun a ha hn => by
    rw [hS.2.1 a (Nat.lt_of_lt_of_le ha cx.2.2.2.2.2.1.1) hn]
    exact cx.2.2.2.2.2.1.2 a ha
  have nar := flat_of_before _ cx.2.2.2.1.2
  have hU0 : vx_Zq Bundle.tN "UNASSIGNED_STACK" Bundle.steD (fun q : Nat => s0.heap.size ≤ q) s0 s0.heap := vx_Zqof (cx.2.2.2.1.1 _ gw_lsU) (cx.2.2.2.1.1 _ gw_iniT) (nar _ gn_U) (fun a ha => Nat.not_le.mpr ha)
  have hN0 : vx_Zq Bundle.tN "SUPPRESSED_SENTINEL" Bundle.listD (fun q : Nat => s0.heap.size ≤ q) s0 s0.heap := vx_Zqof (cx.2.2.2.1.1 _ gw_lsN) (cx.2.2.2.1.1 _ gw_iniT) (nar _ gn_N) (fun a ha => Nat.not_le.mpr ha)
  have hU' : vx_Zq Bundle.tN "UNASSIGNED_STACK" Bundle.steD (fun q : Nat => s0.heap.size ≤ q) s' s'.heap := by rw [hhp]; exact vx_Zq.moved hal (hU0.kept hold)
  have hN' : vx_Zq Bundle.tN "SUPPRESSED_SENTINEL" Bundle.listD (fun q : Nat => s0.heap.size ≤ q) s' s'.heap := by rw [hhp]; exact vx_Zq.moved hal (hN0.kept hold)
  have h : ∀ w ∈ gj_xw md.1.cls ic cls, w.before args s' = true := vx_own (fun w hw => hal1 w (h5 w (List.mem_append_left _ hw)).1 (h5 w (List.mem_append_left _ hw)).2) (vx_isRefq hU'.1) (vx_isRefq hN'.1) hU'.2.word hN'.2.word
  have hch : ∀ w ∈ Bundle.passSAtoms cls "java/lang/RuntimeException" ix bytes ++ Bundle.chainSAtoms "java/lang/RuntimeException" ["java/lang/Exception"], w.before args s' = true := fun w hw => hal1 w (h5 w (List.mem_append_right _ hw)).1 (h5 w (List.mem_append_right _ hw)).2
  have hpl : e.platform.magicAccessors = ({} : Platform).magicAccessors := by rw [X.admits.platform]
  have hown' : s'.vm.findClass md.1.cls = some m.cls := by rw [hvm]; exact cx.2.2.2.2.2.2.2.2.1
  have hins : (Cond.instantiable cls 6).before args s' = true := h _ (by simp [gj_xw])
  have hown0 : s0.vm.findClass md.1.cls = some m.cls := by rw [← hWs0.alike.findClass]; exact cx.2.2.2.2.2.2.2.2.1
  obtain ⟨_, _, _, sa, -, -, -, -, -, hsa0⟩ := Cond.stringRef_spec hown0 (cx.2.2.2.1.1 _ h3)
  have hstr : vk_R md.1.cls is text sa s' := vk_R.warm hW0 (vk_R.warm hWs0 (vk_R.of (cx.2.2.2.1.1 _ h3) hsa0))
  obtain ⟨vm₁, cX, kX, hfX, hkX, -, -, X₁, st1⟩ := Y.newCold hexec (own := md.1.cls) (C := cls) (index := ik) (n := 6) hown' hk' hins hini'
    (g := F0 m pc ls (st.map (gj_tv ad))) rfl (by rw [hb]; exact d0) (Nat.le_refl _) (Nat.le_refl _)
  generalize hT1 : (T.setVm vm₁).pushCell { cls := cX, slots := kX.instanceTypes.map defaultValue, vm := .none } = T1 at X₁ st1
  have hcat : (Value.ref T.heap.size).category = 1 := rfl
  have hcellA : T1.heap[T.heap.size]? = some (freshCell cX kX) := by rw [← hT1]; exact State.heap_pushCell_size _ _
  have d3' : decode c.code (pc + 3) = .ok (.dup, 1) := by rw [hb]; exact d3
  have d4' : decode c.code (pc + 4) = .ok (.ldc is, 2) := by rw [hb]; exact d4
  obtain ⟨U, hsteps, hrun, hend, hW, hsame, ce, hce, hOv, hOc⟩ := gj_ctor X₁ hexec htr (own := md.1.cls) (cls := cls) (ic := ic) (bytes := bytes) hown' hfit (gj_chain_of hpl hfit hq0 hq1 hq2 hq5 hch) (hch _ (List.mem_append_left _ (by simp [Bundle.passSAtoms]))) (hch _ (List.mem_append_left _ (by simp [Bundle.passSAtoms]))) h (fun x hx => nomatch hx) hfX hkX hcellA (by rw [hhp, hT]; exact Nat.le_refl _) (msg := .ref sa) rfl
    (g := { method := m, pc := pc + 6, locals := ls, stack := .ref sa :: .ref T.heap.size :: .ref T.heap.size :: st.map (gj_tv ad), locked := none }) rfl (by rw [cx.2.2.2.2.2.2.2.1]; exact hl.1) rfl rfl (rest := st.map (gj_tv ad)) rfl
    (by rw [hb]; exact d6) (by rw [hb]; exact d9) (outside_of_table cx.2.2.2.2.2.2.2.2.2.2.2 hout) (by have := ro.1; show 5 < R.frames; omega) (by
      simp only [List.map_cons, List.sum_cons, hcat, gj_cats]
      have := ro.2.1
      show 2 * 0 + (1 + (st.map fun v => v.category).sum) + 81 ≤ R.locals
      omega) cx.2.2.2.2.2.2.2.2.2.1
  obtain ⟨f1, f2⟩ := vx_frame hsame
  rw [hhp] at f1 f2
  have hWs : s.WarmedH U.vm := State.WarmedH.trans hW0 hW
  have hcl : s.vm.findClass cls = some ce.cls := by
    rw [hvm] at hOc
    exact hOc
  have hall : s.sameButNew ({ U with vm := s.vm } : State) locs K N := by
    subst hA
    obtain ⟨e1, e2⟩ := hsame
    rw [State.setFrames_setFrames] at e1
    have h2 : (T.setVm s.vm).sameButNew ({ U with vm := s.vm } : State) [] (0 + 1) (0 + 6) := ⟨e1, e2⟩
    have h3 := X.same.trans h2
    rw [List.append_nil] at h3
    exact h3.mono hk hw
  have f3 : ∀ q : Nat, q < H.size → U.heap[q]? = H[q]? := fun q hq => f2 q hq (fun z hz => nomatch hz)
  refine ⟨U, ?_, .threw T.heap.size, locs, .inr cls, n, C, ad, hrun, hend, hWs, hall, hS.2.2, ⟨Nat.le_trans (Nat.le_trans cx.2.2.2.2.2.1.1 hS.1) f1, fun q hq => ?_⟩, hQ, ⟨T.heap.size, ce, rfl, hce, hOv, hcl⟩, trivial, Nat.le_refl n, fun _ _ => rfl, rfl, hP.kept (fun k q hk => f3 q.1 (hP k q hk).lt), hD, oC⟩
  · refine st1 _ ?_
    show Steps p.tables e below (T1.setTop { method := m, pc := pc + 3, locals := ls, stack := .ref T.heap.size :: st.map (gj_tv ad), locked := none }) _
    jvm_step X₁.here [X₁.here.top, hexec, d3', Value.category]
    exact X₁.ldcString hexec (own := md.1.cls) (text := text) (index := is) (a := sa) hown' hstr.1 hstr.2
      (g := { method := m, pc := pc + 4, locals := ls, stack := .ref T.heap.size :: .ref T.heap.size :: st.map (gj_tv ad), locked := none }) rfl d4' _ hsteps
  · rw [f3 q (Nat.lt_of_lt_of_le hq (Nat.le_trans cx.2.2.2.2.2.1.1 hS.1))]
    exact hold q hq (Nat.not_le.mpr hq)
end
