/-! THE MEMORY BY LABELS: a value's reference is a label; ad gives the label's address -/
def gj_tv (ad : Nat → Nat) (v : Value) : Value := match v with
  | .ref x => .ref (ad x)
  | w => w
abbrev gj_X : Type := (Nat → Int32) ⊕ (Nat → Int64) ⊕ (Nat → UInt32) ⊕ (Nat → UInt64) ⊕ (Nat → Option Nat)
def gj_tx (ad : Nat → Nat) (x : gj_X) : gj_X := match x with
  | .inr (.inr (.inr (.inr f))) => .inr (.inr (.inr (.inr (fun j => (f j).map ad))))
  | w => w
def gj_te (dA : Nat → ClassId) (ad : Nat → Nat) (e : va_E) : va_E := match e with
  | .inl a => .inl (dA a.1, a.2.1, gj_tx ad a.2.2)
  | .inr o => .inr (o.1, o.2.map (gj_tv ad))
/-- label 0 is the script's; the labels 1 .. n are the world's -/
def gj_ws (dA : Nat → ClassId) (ad : Nat → Nat) (n : Nat) (C : Nat → va_E) : va_W := (List.range n).map (fun x => (ad (x + 1), gj_te dA ad (C (x + 1))))
theorem gj_ws_get {dA : Nat → ClassId} {ad : Nat → Nat} {n j : Nat} {C : Nat → va_E} (h : j < n) : (gj_ws dA ad n C)[j]? = some (ad (j + 1), gj_te dA ad (C (j + 1))) := by
  simp [gj_ws, h]
theorem gj_ws_out {dA : Nat → ClassId} {ad : Nat → Nat} {n j : Nat} {C : Nat → va_E} (h : ¬ j < n) : (gj_ws dA ad n C)[j]? = none := by
  simp [gj_ws]
  omega
theorem gj_ws_at {dA : Nat → ClassId} {ad : Nat → Nat} {n x : Nat} {C : Nat → va_E} (h0 : x ≠ 0) (h : x ≤ n) : (gj_ws dA ad n C)[x - 1]? = some (ad x, gj_te dA ad (C x)) := by
  obtain ⟨y, rfl⟩ : ∃ y, x = y + 1 := ⟨x - 1, by omega⟩
  exact gj_ws_get (by omega)
theorem gj_ws_set {dA : Nat → ClassId} {ad : Nat → Nat} {n x : Nat} {C : Nat → va_E} (e : va_E) (h0 : x ≠ 0) : (gj_ws dA ad n C).set (x - 1) (ad x, gj_te dA ad e) = gj_ws dA ad n (va_up C x e) := by
  obtain ⟨y, rfl⟩ : ∃ y, x = y + 1 := ⟨x - 1, by omega⟩
  rw [Nat.add_sub_cancel]
  apply List.ext_getElem?
  intro j
  rw [List.getElem?_set]
  by_cases hj : j < n
  · by_cases hx : y = j
    · subst hx
      rw [if_pos rfl, gj_ws_get hj, va_up_self, if_pos (by simp [gj_ws, hj])]
    · rw [if_neg hx, gj_ws_get hj, gj_ws_get hj, va_up_ne C e (by omega)]
  · rw [gj_ws_out hj, gj_ws_out hj]
    by_cases hx : y = j
    · subst hx
      rw [if_pos rfl, if_neg (by simp [gj_ws, hj])]
    · rw [if_neg hx]
/-- the references are labels up to n -/
def gj_ov (n : Nat) (v : Value) : Prop := match v with
  | .ref x => x ≤ n
  | _ => True
def gj_ox (n : Nat) (x : gj_X) : Prop := match x with
  | .inr (.inr (.inr (.inr f))) => ∀ j y, f j = some y → y ≤ n
  | _ => True
def gj_oe (n : Nat) (e : va_E) : Prop := match e with
  | .inl a => gj_ox n a.2.2
  | .inr o => ∀ v ∈ o.2, gj_ov n v
def gj_oC (n : Nat) (C : Nat → va_E) : Prop := ∀ x, x ≤ n → gj_oe n (C x)
def gj_ol (n : Nat) (lc : List (Nat × Value)) (st : List Value) : Prop := (∀ q ∈ lc, gj_ov n q.2) ∧ ∀ v ∈ st, gj_ov n v
def gj_tl (ad : Nat → Nat) (lc : List (Nat × Value)) : List (Nat × Value) := lc.map (fun q => (q.1, gj_tv ad q.2))
theorem gj_cat (ad : Nat → Nat) (v : Value) : (gj_tv ad v).category = v.category := by cases v <;> rfl
theorem gj_cats (ad : Nat → Nat) (st : List Value) : ((st.map (gj_tv ad)).map fun v => v.category) = st.map fun v => v.category := by
  rw [List.map_map]
  exact List.map_congr_left fun v _ => gj_cat ad v
theorem gj_tv_eq {n : Nat} {ad ad' : Nat → Nat} (h : ∀ x, x ≤ n → ad' x = ad x) {v : Value} (hv : gj_ov n v) : gj_tv ad' v = gj_tv ad v := by
  cases v <;> first | rfl | exact congrArg Value.ref (h _ hv)
theorem gj_ts_eq {n : Nat} {ad ad' : Nat → Nat} (h : ∀ x, x ≤ n → ad' x = ad x) {st : List Value} (hv : ∀ v ∈ st, gj_ov n v) : st.map (gj_tv ad') = st.map (gj_tv ad) :=
  List.map_congr_left fun v hm => gj_tv_eq h (hv v hm)
theorem gj_tl_eq {n : Nat} {ad ad' : Nat → Nat} (h : ∀ x, x ≤ n → ad' x = ad x) {lc : List (Nat × Value)} (hv : ∀ q ∈ lc, gj_ov n q.2) : gj_tl ad' lc = gj_tl ad lc :=
  List.map_congr_left fun q hm => by rw [gj_tv_eq h (hv q hm)]
theorem gj_tx_eq {n : Nat} {ad ad' : Nat → Nat} (h : ∀ x, x ≤ n → ad' x = ad x) {x : gj_X} (hx : gj_ox n x) : gj_tx ad' x = gj_tx ad x := by
  rcases x with f | f | f | f | f
  · rfl
  · rfl
  · rfl
  · rfl
  · have e : (fun j => (f j).map ad') = fun j => (f j).map ad := by
      funext j
      cases hf : f j with
      | none => rfl
      | some y => exact congrArg some (h y (hx j y hf))
    show (Sum.inr (Sum.inr (Sum.inr (Sum.inr (fun j => (f j).map ad')))) : gj_X) = _
    rw [e]
    rfl
theorem gj_te_eq {dA : Nat → ClassId} {n : Nat} {ad ad' : Nat → Nat} (h : ∀ x, x ≤ n → ad' x = ad x) {e : va_E} (he : gj_oe n e) : gj_te dA ad' e = gj_te dA ad e := by
  rcases e with a | o
  · show (Sum.inl (dA a.1, a.2.1, gj_tx ad' a.2.2) : va_E) = _
    rw [gj_tx_eq h he]
    rfl
  · show (Sum.inr (o.1, o.2.map (gj_tv ad')) : va_E) = _
    rw [gj_ts_eq h he]
    rfl
theorem gj_ws_eq {dA : Nat → ClassId} {n : Nat} {ad ad' : Nat → Nat} {C : Nat → va_E} (h : ∀ x, x ≤ n → ad' x = ad x) (hC : gj_oC n C) : gj_ws dA ad' n C = gj_ws dA ad n C :=
  List.map_congr_left fun x hx => by
    have hx : x + 1 ≤ n := List.mem_range.mp hx
    rw [h _ hx, gj_te_eq h (hC _ hx)]
theorem gj_ws_push {dA : Nat → ClassId} {n q : Nat} {ad : Nat → Nat} {C : Nat → va_E} {e : va_E} (hC : gj_oC n C) (he : gj_oe n e) : gj_ws dA ad n C ++ [(q, gj_te dA ad e)] = gj_ws dA (va_up ad (n + 1) q) (n + 1) (va_up C (n + 1) e) := by
  have h : ∀ x, x ≤ n → va_up ad (n + 1) q x = ad x := fun x hx => va_up_ne ad q (by omega)
  unfold gj_ws
  rw [List.range_succ, List.map_append]
  congr 1
  · refine List.map_congr_left fun x hx => ?_
    have hx : x + 1 ≤ n := List.mem_range.mp hx
    rw [h _ hx, va_up_ne C e (show x + 1 ≠ n + 1 by omega), gj_te_eq h (hC _ hx)]
  · show [(q, gj_te dA ad e)] = [(va_up ad (n + 1) q (n + 1), gj_te dA (va_up ad (n + 1) q) (va_up C (n + 1) e (n + 1)))]
    rw [va_up_self, va_up_self, gj_te_eq h he]
theorem gj_ov_le {n n' : Nat} (h : n ≤ n') {v : Value} (hv : gj_ov n v) : gj_ov n' v := by
  cases v <;> first | trivial | exact Nat.le_trans hv h
theorem gj_oe_le {n n' : Nat} (h : n ≤ n') {e : va_E} (he : gj_oe n e) : gj_oe n' e := by
  rcases e with ⟨k, m, f | f | f | f | f⟩ | o
  · trivial
  · trivial
  · trivial
  · trivial
  · exact fun j y hy => Nat.le_trans (he j y hy) h
  · exact fun v hv => gj_ov_le h (he v hv)
theorem gj_oC_push {n : Nat} {C : Nat → va_E} {e : va_E} (hC : gj_oC n C) (he : gj_oe (n + 1) e) : gj_oC (n + 1) (va_up C (n + 1) e) := by
  intro x hx
  by_cases h : x = n + 1
  · subst h
    rw [va_up_self]
    exact he
  · rw [va_up_ne C e h]
    exact gj_oe_le (Nat.le_succ n) (hC x (by omega))
theorem gj_oC_up {n x : Nat} {C : Nat → va_E} {e : va_E} (hC : gj_oC n C) (he : gj_oe n e) : gj_oC n (va_up C x e) := by
  intro y hy
  by_cases h : y = x
  · subst h
    rw [va_up_self]
    exact he
  · rw [va_up_ne C e h]
    exact hC y hy
theorem gj_ol_le {n n' : Nat} (h : n ≤ n') {lc : List (Nat × Value)} {st : List Value} (hl : gj_ol n lc st) : gj_ol n' lc st := ⟨fun q hq => gj_ov_le h (hl.1 q hq), fun v hv => gj_ov_le h (hl.2 v hv)⟩
theorem gj_ol_pop {n : Nat} {lc : List (Nat × Value)} {v : Value} {st : List Value} (h : gj_ol n lc (v :: st)) : gj_ol n lc st := ⟨h.1, fun w hw => h.2 w (List.mem_cons_of_mem _ hw)⟩
theorem gj_ol_push {n : Nat} {lc : List (Nat × Value)} {v : Value} {st : List Value} (h : gj_ol n lc st) (hv : gj_ov n v) : gj_ol n lc (v :: st) := ⟨h.1, fun w hw => (List.mem_cons.mp hw).elim (fun e => e ▸ hv) (h.2 w)⟩
theorem gj_ol_loc {n k i : Nat} {lc : List (Nat × Value)} {v : Value} {st : List Value} (h : gj_ol n lc st) (hk : lc[k]? = some (i, v)) : gj_ov n v := h.1 _ (List.mem_of_getElem? hk)
theorem gj_tl_at {ad : Nat → Nat} {lc : List (Nat × Value)} {k i : Nat} {v : Value} (h : lc[k]? = some (i, v)) : (gj_tl ad lc)[k]? = some (i, gj_tv ad v) := by
  simp [gj_tl, h]
def gj_st1 (lc : List (Nat × Value)) (i : Nat) (v : Value) : List (Nat × Value) := (i, v) :: lc.filter (fun q => !(q.1 == i) && !(q.1 + 1 == i && q.2.category == 2))
def gj_st2 (lc : List (Nat × Value)) (i : Nat) (v : Value) : List (Nat × Value) := (i, v) :: lc.filter (fun q => !(q.1 == i) && (!(q.1 == i + 1) && !(q.1 + 1 == i && q.2.category == 2)))
theorem gj_tl_st1 {ad : Nat → Nat} {lc : List (Nat × Value)} {i : Nat} {v : Value} : (i, gj_tv ad v) :: (gj_tl ad lc).filter (fun q => !(q.1 == i) && !(q.1 + 1 == i && q.2.category == 2)) = gj_tl ad (gj_st1 lc i v) := by
  unfold gj_tl gj_st1
  rw [List.map_cons, List.filter_map]
  congr 2
  refine List.filter_congr fun q _ => ?_
  simp [gj_cat]
theorem gj_tl_st2 {ad : Nat → Nat} {lc : List (Nat × Value)} {i : Nat} {v : Value} : (i, gj_tv ad v) :: (gj_tl ad lc).filter (fun q => !(q.1 == i) && (!(q.1 == i + 1) && !(q.1 + 1 == i && q.2.category == 2))) = gj_tl ad (gj_st2 lc i v) := by
  unfold gj_tl gj_st2
  rw [List.map_cons, List.filter_map]
  congr 2
  refine List.filter_congr fun q _ => ?_
  simp [gj_cat]
theorem gj_ol_st1 {n i : Nat} {lc : List (Nat × Value)} {v : Value} {st : List Value} (h : gj_ol n lc (v :: st)) : gj_ol n (gj_st1 lc i v) st :=
  ⟨fun q hq => (List.mem_cons.mp hq).elim (fun e => by rw [e]; exact h.2 v List.mem_cons_self) (fun hm => h.1 q (List.mem_filter.mp hm).1), (gj_ol_pop h).2⟩
theorem gj_ol_st2 {n i : Nat} {lc : List (Nat × Value)} {v : Value} {st : List Value} (h : gj_ol n lc (v :: st)) : gj_ol n (gj_st2 lc i v) st :=
  ⟨fun q hq => (List.mem_cons.mp hq).elim (fun e => by rw [e]; exact h.2 v List.mem_cons_self) (fun hm => h.1 q (List.mem_filter.mp hm).1), (gj_ol_pop h).2⟩
theorem gj_args {ad : Nat → Nat} : ∀ (as : List Value) (i : Nat), lv_args i (as.map (gj_tv ad)) = gj_tl ad (lv_args i as)
  | [], _ => rfl
  | v :: as, i => by
    show (i, gj_tv ad v) :: lv_args (if (gj_tv ad v).category = 2 then i + 2 else i + 1) (as.map (gj_tv ad)) = (i, gj_tv ad v) :: gj_tl ad (lv_args (if v.category = 2 then i + 2 else i + 1) as)
    rw [gj_cat, gj_args as]
theorem gj_args_ov {n : Nat} : ∀ (as : List Value) (i : Nat), (∀ v ∈ as, gj_ov n v) → ∀ q ∈ lv_args i as, gj_ov n q.2
  | [], _, _, q, hq => by cases hq
  | v :: as, i, h, q, hq => by
    have hq : q ∈ (i, v) :: lv_args (if v.category = 2 then i + 2 else i + 1) as := hq
    rcases List.mem_cons.mp hq with e | hm
    · rw [e]
      exact h v List.mem_cons_self
    · exact gj_args_ov as _ (fun w hw => h w (List.mem_cons_of_mem _ hw)) q hm
