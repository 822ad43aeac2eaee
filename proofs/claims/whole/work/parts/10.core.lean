/-! ===== the heap as a function of addresses; a method's contract over the whole of it ===== -/
abbrev qE : Type := (Nat × List Value) ⊕ (Nat × Nat × (Nat → Int)) ⊕ (Nat × Nat × (Nat → Option Nat))
abbrev qH : Type := Nat → Option qE
def vI (z : Int) : Value := .int (Int32.ofInt z)
def vL (z : Int) : Value := .long (Int64.ofInt z)
abbrev vB (P : Prop) [Decidable P] : Value := vI (if P then 1 else 0)
abbrev oB (c : Nat) (fs : List Value) : qE := .inl (c, fs)
abbrev iA (k n : Nat) (f : Nat → Int) : qE := .inr (.inl (k, n, f))
abbrev rA (k n : Nat) (f : Nat → Option Nat) : qE := .inr (.inr (k, n, f))
abbrev iR (z : Int) : Prop := -2147483648 ≤ z ∧ z < 2147483648
def aty (k : Nat) : FieldType := match k with
  | 0 => .int
  | 1 => .boolean
  | 2 => .object RX2
  | _ => .object RX0
def hU (h : qH) (a : Nat) (e : qE) : qH := fun q => if q = a then some e else h q
theorem hU_self (h : qH) (a : Nat) (e : qE) : hU h a e a = some e := by simp [hU]
theorem hU_ne {h : qH} {a q : Nat} {e : qE} (n : q ≠ a) : hU h a e q = h q := by simp [hU, n]
def qAt (D : va_G) (U : State) (H : Heap) (a : Nat) (e : qE) : Prop := match e with
  | .inl o => ∃ r : vw_C, vwCl[o.1]? = some r ∧ t_OB a (D.1 o.1) r.2.2 (D.2 o.1) H (vp_V o.2)
  | .inr (.inl x) => ∃ cA : ClassId, (ArrOfT U cA (aty x.1) ∧ va_RA U cA (aty x.1)) ∧ H[a]? = some (vp_cell cA (x.2.1, .inl (fun j => Int32.ofInt (x.2.2 j))))
  | .inr (.inr x) => ∃ cA : ClassId, (ArrOfT U cA (aty x.1) ∧ va_RA U cA (aty x.1)) ∧ H[a]? = some (vp_cell cA (x.2.1, .inr (.inr (.inr (.inr x.2.2)))))
theorem qAt.kept {D : va_G} {U : State} {H H1 : Heap} {a : Nat} {e : qE} (h : qAt D U H a e) (hq : H1[a]? = H[a]?) : qAt D U H1 a e := by
  rcases e with o | x | x
  · obtain ⟨r, h1, h2⟩ := h
    exact ⟨r, h1, h2.kept hq⟩
  · obtain ⟨cA, h1, h2⟩ := h
    exact ⟨cA, h1, hq.trans h2⟩
  · obtain ⟨cA, h1, h2⟩ := h
    exact ⟨cA, h1, hq.trans h2⟩
theorem qAt.lt {D : va_G} {U : State} {H : Heap} {a : Nat} {e : qE} (h : qAt D U H a e) : a < H.size := by
  rcases e with o | x | x
  · obtain ⟨r, h1, cell, h2, -⟩ := h
    exact (Array.getElem?_eq_some_iff.mp h2).1
  · obtain ⟨cA, h1, h2⟩ := h
    exact (Array.getElem?_eq_some_iff.mp h2).1
  · obtain ⟨cA, h1, h2⟩ := h
    exact (Array.getElem?_eq_some_iff.mp h2).1
theorem qAt.moved {D : va_G} {u U : State} {H : Heap} {a : Nat} {e : qE} (hvm : u.vm.Alike U.vm) (h : qAt D u H a e) : qAt D U H a e := by
  rcases e with o | x | x
  · exact h
  · obtain ⟨cA, h1, h2⟩ := h
    exact ⟨cA, ⟨arrOfT_moved hvm h1.1, h1.2.moved hvm⟩, h2⟩
  · obtain ⟨cA, h1, h2⟩ := h
    exact ⟨cA, ⟨arrOfT_moved hvm h1.1, h1.2.moved hvm⟩, h2⟩
def qR (D : va_G) (U : State) (H : Heap) (h : qH) (sz : Nat) : Prop := H.size = sz ∧ ∀ (a : Nat) (e : qE), h a = some e → qAt D U H a e
theorem qR.moved {D : va_G} {u U : State} {H : Heap} {h : qH} {sz : Nat} (hvm : u.vm.Alike U.vm) (hR : qR D u H h sz) : qR D U H h sz := ⟨hR.1, fun a e he => (hR.2 a e he).moved hvm⟩
theorem qR.fresh {D : va_G} {u : State} {H : Heap} {h : qH} {sz q : Nat} (hR : qR D u H h sz) (hq : sz ≤ q) : h q = none := by
  cases e : h q with
  | none => rfl
  | some x => have := (hR.2 q x e).lt; have := hR.1; omega
theorem qR.set {D : va_G} {u : State} {H H1 : Heap} {h : qH} {sz a : Nat} {e : qE} (hR : qR D u H h sz) (z : H1.size = H.size) (oq : ∀ q : Nat, q ≠ a → H1[q]? = H[q]?) (he : qAt D u H1 a e) : qR D u H1 (hU h a e) sz := by
  refine ⟨z.trans hR.1, fun q x hx => ?_⟩
  by_cases hq : q = a
  · subst hq
    rw [hU_self] at hx
    cases hx
    exact he
  · rw [hU_ne hq] at hx
    exact (hR.2 q x hx).kept (oq q hq)
theorem qR.push {D : va_G} {u : State} {H H1 : Heap} {h : qH} {sz : Nat} {e : qE} (hR : qR D u H h sz) (z : H1.size = sz + 1) (oq : ∀ q : Nat, q < sz → H1[q]? = H[q]?) (he : qAt D u H1 sz e) : qR D u H1 (hU h sz e) (sz + 1) := by
  refine ⟨z, fun q x hx => ?_⟩
  by_cases hq : q = sz
  · subst hq
    rw [hU_self] at hx
    cases hx
    exact he
  · rw [hU_ne hq] at hx
    have h1 := hR.2 q x hx
    exact h1.kept (oq q (by have := h1.lt; have := hR.1; omega))
theorem qR.one {D : va_G} {u : State} {H : Heap} {h : qH} {sz a ci : Nat} {fs : List Value} (hR : qR D u H h sz) (ha : h a = some (oB ci fs)) : va_P D vwCl [(a, .inr (ci, fs))] H := by
  intro k q hk
  have hz : k < 1 := (List.getElem?_eq_some_iff.mp hk).1
  obtain rfl : k = 0 := by omega
  cases hk
  exact hR.2 a _ ha
/-! the tables' words that a method's start holds -/
def qKK (D : va_G) (U : State) : Prop := va_K D vwCl [] U ∧ (∀ w ∈ nst, va_Nw w U) ∧ va_AO RX0 U ∧ va_AO RX2 U
theorem nst_warm {s U : State} (hW : s.WarmedH U.vm) : ∀ w ∈ nst, va_Nw w s → va_Nw w U := by
  intro w hw h
  simp only [nst, List.mem_cons, List.not_mem_nil, or_false] at hw
  rcases hw with rfl | rfl | rfl | rfl | rfl | rfl | rfl
  all_goals first | exact va_Nw.warmF hW h | exact va_Nw.warmM hW h
theorem nst_on : ∀ w ∈ nst, w.onTables = true := by
  intro w hw
  simp only [nst, List.mem_cons, List.not_mem_nil, or_false] at hw
  rcases hw with rfl | rfl | rfl | rfl | rfl | rfl | rfl <;> rfl
theorem qKK.warm {D : va_G} {s U : State} (hW : s.WarmedH U.vm) (h : qKK D s) : qKK D U := ⟨va_K.moved hW.alike h.1, fun w hw => nst_warm hW w hw (h.2.1 w hw), va_AO.moved hW.alike h.2.2.1, va_AO.moved hW.alike h.2.2.2⟩
theorem qKK.call {D : va_G} {U : State} {g : JFrame} {mk : MethodId} {a : Array Value} (h : qKK D U) : qKK D (U.calling g mk a) :=
  ⟨va_K.moved (u := U) (U := U.calling g mk a) (Vm.Alike.refl U.vm) h.1, fun w hw => va_Nw.same (u := U) (U := U.calling g mk a) (nst_on w hw) rfl (h.2.1 w hw), va_AO.moved (u := U) (U := U.calling g mk a) (Vm.Alike.refl U.vm) h.2.2.1, va_AO.moved (u := U) (U := U.calling g mk a) (Vm.Alike.refl U.vm) h.2.2.2⟩
/-! locals by their places -/
def qL (ls : Array Slot) (nL : Nat) (L : List (Option Value)) : Prop := ls.size = nL ∧ lv_wf ls ∧ ∀ (i : Nat) (v : Value), L[i]? = some (some v) → ls[i]? = some (.val v)
def qprs (L : List (Option Value)) : List (Nat × Value) := (List.range L.length).filterMap (fun i => (L[i]?.join).map (fun v => (i, v)))
theorem mem_qprs {L : List (Option Value)} {q : Nat × Value} : q ∈ qprs L ↔ L[q.1]? = some (some q.2) := by
  obtain ⟨i, v⟩ := q
  simp only [qprs, List.mem_filterMap, List.mem_range, Option.map_eq_some_iff, Prod.mk.injEq]
  constructor
  · rintro ⟨j, hj, w, hw, rfl, rfl⟩
    cases e : L[j]? with
    | none => rw [e] at hw; cases hw
    | some x => rw [e] at hw; simp only [Option.join_some] at hw; rw [hw]
  · intro h
    exact ⟨i, (List.getElem?_eq_some_iff.mp h).1, v, by rw [h]; rfl, rfl, rfl⟩
theorem qL.has {ls : Array Slot} {nL : Nat} {L : List (Option Value)} (h : qL ls nL L) : lv_has ls nL (qprs L) := ⟨h.1, h.2.1, fun q hq => h.2.2 q.1 q.2 (mem_qprs.mp hq)⟩
/-- no long's second half is at i -/
def qok (L : List (Option Value)) (i : Nat) : Bool := match i with
  | 0 => true
  | j + 1 => match L[j]? with
    | some (some v) => v.category == 1
    | _ => true
theorem qok_spec {L : List (Option Value)} {i j : Nat} {v : Value} (h : qok L i = true) (hj : L[j]? = some (some v)) (hi : j + 1 = i) : ¬ v.category = 2 := by
  subst hi
  simp only [qok, hj, beq_iff_eq] at h
  omega
theorem qL.set1 {ls : Array Slot} {nL i : Nat} {L : List (Option Value)} {v : Value} (hok : qok L i = true) (hi : i < L.length) (h : lv_has ls nL ((i, v) :: (qprs L).filter (fun q => !(q.1 == i) && !(q.1 + 1 == i && q.2.category == 2)))) : qL ls nL (L.set i (some v)) := by
  refine ⟨h.1, h.2.1, fun j w hj => ?_⟩
  by_cases hji : j = i
  · subst hji
    rw [List.getElem?_set_self hi] at hj
    cases hj
    exact h.2.2 _ List.mem_cons_self
  · rw [List.getElem?_set_ne (Ne.symm hji)] at hj
    refine h.2.2 (j, w) (List.mem_cons_of_mem _ (List.mem_filter.mpr ⟨mem_qprs.mpr hj, ?_⟩))
    have := fun e => qok_spec hok hj e
    simp only [Bool.and_eq_true, Bool.not_eq_true', beq_eq_false_iff_ne, Bool.and_eq_false_iff]
    refine ⟨hji, ?_⟩
    by_cases e : j + 1 = i
    · exact Or.inr (this e)
    · exact Or.inl e
theorem qL.set2 {ls : Array Slot} {nL i : Nat} {L : List (Option Value)} {v : Value} (hok : qok L i = true) (hi : i + 1 < L.length) (h : lv_has ls nL ((i, v) :: (qprs L).filter (fun q => !(q.1 == i) && (!(q.1 == i + 1) && !(q.1 + 1 == i && q.2.category == 2))))) : qL ls nL ((L.set i (some v)).set (i + 1) none) := by
  refine ⟨h.1, h.2.1, fun j w hj => ?_⟩
  by_cases hj1 : j = i + 1
  · subst hj1
    rw [List.getElem?_set_self (by rw [List.length_set]; exact hi)] at hj
    cases hj
  · rw [List.getElem?_set_ne (Ne.symm hj1)] at hj
    by_cases hji : j = i
    · subst hji
      rw [List.getElem?_set_self (by omega)] at hj
      cases hj
      exact h.2.2 _ List.mem_cons_self
    · rw [List.getElem?_set_ne (Ne.symm hji)] at hj
      refine h.2.2 (j, w) (List.mem_cons_of_mem _ (List.mem_filter.mpr ⟨mem_qprs.mpr hj, ?_⟩))
      have := fun e => qok_spec hok hj e
      simp only [Bool.and_eq_true, Bool.not_eq_true', beq_eq_false_iff_ne, Bool.and_eq_false_iff]
      refine ⟨hji, hj1, ?_⟩
      by_cases e : j + 1 = i
      · exact Or.inr (this e)
      · exact Or.inl e
def qent : List Value → List (Option Value)
  | [] => []
  | v :: vs => if v.category = 2 then some v :: none :: qent vs else some v :: qent vs
theorem qent_args : ∀ (vs : List Value) (o i : Nat) (v : Value), (qent vs)[i]? = some (some v) → (o + i, v) ∈ lv_args o vs := by
  intro vs
  induction vs with
  | nil => intro o i v h; simp [qent] at h
  | cons w vs ih =>
    intro o i v h
    by_cases hc : w.category = 2
    · simp only [qent, hc, if_true] at h
      simp only [lv_args, hc, if_true]
      match i, h with
      | 0, h => simp at h; subst h; exact List.mem_cons_self
      | 1, h => simp at h
      | i + 2, h =>
        have := ih (o + 2) i v (by simpa using h)
        exact List.mem_cons_of_mem _ (by rw [show o + (i + 2) = o + 2 + i by omega]; exact this)
    · simp only [qent, hc, if_false] at h
      simp only [lv_args, hc, if_false]
      match i, h with
      | 0, h => simp at h; subst h; exact List.mem_cons_self
      | i + 1, h =>
        have := ih (o + 1) i v (by simpa using h)
        exact List.mem_cons_of_mem _ (by rw [show o + (i + 1) = o + 1 + i by omega]; exact this)
theorem qL_entry (av : List Value) {n : Nat} (h : (lg_sl av).length ≤ n) (x : Nat) : qL ((lg_sl av ++ List.replicate (n - (lg_sl av).length) Slot.unset).toArray) n (qent av ++ List.replicate x none) := by
  have e := lv_entry av h
  refine ⟨e.1, e.2.1, fun i v hi => ?_⟩
  by_cases hl : i < (qent av).length
  · rw [List.getElem?_append_left hl] at hi
    have := qent_args av 0 i v hi
    rw [Nat.zero_add] at this
    exact e.2.2 _ this
  · rw [List.getElem?_append_right (by omega)] at hi
    have := List.mem_of_getElem? hi
    simp at this
/-! the judgement at an instruction, the contract of a method -/
def mR (M : MI) (mc ms : Nat) : Room := { frames := M.2.2.2.2.1, cells := mc, slots := ms, locals := M.2.2.2.2.2 }
def qF (M : MI) (p : Program) (s : State) (m : MethodId) (args : Array Value) (meth : Method) (c : Code) : Prop :=
  p.tables.exec = Jvm.exec ∧ c.code = M.2.1 ∧ c.maxLocals = M.2.2.1 ∧ s.vm.findClass M.1.cls = some m.cls ∧ (∀ w ∈ gt, w.before args s = true) ∧ meth.sig.returnType = M.2.2.2.1 ∧ meth.locks = false ∧ meth.name = M.1.name
def qA (h0 : qH) (sz0 : Nat) : Nat → Prop := fun q => h0 q ≠ none ∨ sz0 ≤ q
abbrev qG : Type := va_G → List Frame → Array Value → State → State → Prop
def qV (l : Launch) (M : MI) (R : Room) (EX : State → Array Value → Prop) (G : qG) (h0 : qH) (sz0 : Nat) (k n : Nat) (h : qH) (sz : Nat) (pc : Nat) (L : List (Option Value)) (st : List Value) : Prop :=
  ∀ (D : va_G) (p : Program) (e : Env) (s : State) (m : MethodId) (args : Array Value) (below : List Frame) (meth : Method) (c : Code) (H : Heap) (locs : List Loc) (ls : Array Slot),
    qF M p s m args meth c → qKK D s → EX s args → s.heap.size = sz0 → qR D s H h sz → va_S (qA h0 sz0) s.heap H locs → (∀ q, h q ≠ none → qA h0 sz0 q) → qL ls M.2.2.1 L →
    W p l e R s m args below meth c H locs k n (G D below args s) (F0 m pc ls st)
def qQ (D : va_G) (h0 : qH) (sz0 : Nat) (Q : Option Value → qH → Nat → Prop) : Array Value → State → Outcome → State → Prop := fun _ st o t =>
  ∃ (v : Option Value) (h' : qH) (sz' : Nat), o = .returned v ∧ Q v h' sz' ∧ qR D t t.heap h' sz' ∧ (∀ q, h' q ≠ none → qA h0 sz0 q) ∧ sz0 ≤ sz' ∧ ∀ q, q < sz0 → h0 q = none → t.heap[q]? = st.heap[q]?
def qM (h0 : qH) (sz0 mc ms : Nat) (Q : Option Value → qH → Nat → Prop) : qG := fun D below args s => MQ below (qQ D h0 sz0 Q) args s mc ms (qA h0 sz0)
abbrev qVM (l : Launch) (M : MI) (mc ms : Nat) (h0 : qH) (sz0 : Nat) (Q : Option Value → qH → Nat → Prop) (k n : Nat) (h : qH) (sz : Nat) (pc : Nat) (L : List (Option Value)) (st : List Value) : Prop :=
  qV l M (mR M mc ms) (fun _ _ => True) (qM h0 sz0 mc ms Q) h0 sz0 k n h sz pc L st
def qC (l : Launch) (M : MI) (mc ms : Nat) (av : List Value) (h : qH) (sz : Nat) (Q : Option Value → qH → Nat → Prop) : Prop :=
  ∀ D : va_G, Met l M.1 (Cond.code M.1 M.2.1 M.2.2.1 M.2.2.2.1 :: gt) (mR M mc ms) (va_Pc av (fun U => qKK D U ∧ qR D U U.heap h sz)) (qQ D h sz Q) mc ms (qA h sz)
/-- a method that changes nothing -/
abbrev qRd (l : Launch) (M : MI) (av : List Value) (h : qH) (sz : Nat) (w : Value) : Prop := qC l M 0 0 av h sz (fun v h' sz' => v = some w ∧ h' = h ∧ sz' = sz)
theorem qC.of {l : Launch} {M : MI} {mc ms : Nat} {av : List Value} {h : qH} {sz : Nat} {Q : Option Value → qH → Nat → Prop} (x : Nat) (hp : plainName M.1.cls = true) (hlen : (lg_sl av).length ≤ M.2.2.1) (kk : qVM l M mc ms h sz Q 0 0 h sz 0 (qent av ++ List.replicate x none) []) : qC l M mc ms av h sz Q := by
  intro D
  refine Met.ofW (cc := M.2.1) (maxL := M.2.2.1) (ret := M.2.2.2.1) hp rfl ?_
  intro p e s m args below meth c s₁ B hml hv
  obtain ⟨rfl, hK, hR⟩ := hv
  have hts := atoms_spec (ws := Cond.code M.1 M.2.1 M.2.2.1 M.2.2.2.1 :: gt) B.pre
  rw [lg_entry_eq]
  exact kk D p e s m _ below meth c s.heap [] _ ⟨B.exec, B.bytes, hml, findClass_of_methodNamed B.named, fun w hw => hts w (List.mem_cons_of_mem _ hw), B.returns, B.notSynchronized, (name_of_methodNamed B.named B.method).1⟩ hK trivial hR.1 hR va_S.rf (fun q hq => Or.inl hq) (qL_entry av hlen x)
theorem qC.mono {l : Launch} {M : MI} {mc ms : Nat} {av : List Value} {h : qH} {sz : Nat} {Q Q' : Option Value → qH → Nat → Prop} (hc : qC l M mc ms av h sz Q) (hq : ∀ v h' sz', Q v h' sz' → Q' v h' sz') : qC l M mc ms av h sz Q' := by
  intro D p e ha hcc hk s m args below hf happ hp hX
  obtain ⟨t, o, a1, b1, b2, ⟨v, h', sz', r1, r2, r3⟩, b4⟩ := hc D p e ha hcc hk s m args below hf happ hp hX
  exact ⟨t, o, a1, b1, b2, ⟨v, h', sz', r1, hq _ _ _ r2, r3⟩, b4⟩
section QV
variable {l : Launch} {M : MI} {R : Room} {EX : State → Array Value → Prop} {G : qG} {h0 : qH} {sz0 k n : Nat} {h : qH} {sz pc : Nat} {L : List (Option Value)} {st : List Value}
theorem qV.step {pc' : Nat} {st' : List Value} (f : ∀ (p : Program) (e : Env) (s : State) (m : MethodId) (args : Array Value) (below : List Frame) (meth : Method) (c : Code) (H : Heap) (locs : List Loc) (ls : Array Slot) (Z : State → Prop), p.tables.exec = Jvm.exec → c.code = M.2.1 → W p l e R s m args below meth c H locs k n Z (F0 m pc' ls st') → W p l e R s m args below meth c H locs k n Z (F0 m pc ls st))
    (kk : qV l M R EX G h0 sz0 k n h sz pc' L st') : qV l M R EX G h0 sz0 k n h sz pc L st :=
  fun D p e s m args below meth c H locs ls hF hK hE hz hR hS hA hL => f p e s m args below meth c H locs ls _ hF.1 hF.2.1 (kk D p e s m args below meth c H locs ls hF hK hE hz hR hS hA hL)
theorem qV_iconst {z : Int} (hd : decode M.2.1 pc = .ok (.iconst z, 1)) (kk : qV l M R EX G h0 sz0 k n h sz (pc + 1) L (vI z :: st)) : qV l M R EX G h0 sz0 k n h sz pc L st :=
  qV.step (fun _ _ _ _ _ _ _ _ _ _ _ _ hx hb k => lv_iconst hx hb hd rfl k) kk
theorem qV_bipush {z : Int} (hd : decode M.2.1 pc = .ok (.bipush z, 2)) (hz : (Int8.ofInt z).toInt32 = Int32.ofInt z) (kk : qV l M R EX G h0 sz0 k n h sz (pc + 2) L (vI z :: st)) : qV l M R EX G h0 sz0 k n h sz pc L st :=
  qV.step (fun _ _ _ _ _ _ _ _ _ _ _ _ hx hb k => lv_bipush hx hb hd hz k) kk
theorem qV_sipush {z : Int} (hd : decode M.2.1 pc = .ok (.sipush z, 3)) (hz : (Int16.ofInt z).toInt32 = Int32.ofInt z) (kk : qV l M R EX G h0 sz0 k n h sz (pc + 3) L (vI z :: st)) : qV l M R EX G h0 sz0 k n h sz pc L st :=
  qV.step (fun _ _ _ _ _ _ _ _ _ _ _ _ hx hb k => lv_sipush hx hb hd hz k) kk
theorem qV_anull (hd : decode M.2.1 pc = .ok (.aconst_null, 1)) (kk : qV l M R EX G h0 sz0 k n h sz (pc + 1) L (.null :: st)) : qV l M R EX G h0 sz0 k n h sz pc L st :=
  qV.step (fun _ _ _ _ _ _ _ _ _ _ _ _ hx hb k => lv_null hx hb hd k) kk
theorem qV_iload_n {j : Fin 4} (i : Nat) {z : Int} (hd : decode M.2.1 pc = .ok (.iload_n j, 1)) (hi : (j : Nat) = i) (hl : L[i]? = some (some (vI z))) (kk : qV l M R EX G h0 sz0 k n h sz (pc + 1) L (vI z :: st)) : qV l M R EX G h0 sz0 k n h sz pc L st :=
  fun D p e s m args below meth c H locs ls hF hK hE hz hR hS hA hL => lv_iload_n hF.1 hF.2.1 hd hi (hL.2.2 i _ hl) (kk D p e s m args below meth c H locs ls hF hK hE hz hR hS hA hL)
theorem qV_iload (i : Nat) {z : Int} (hd : decode M.2.1 pc = .ok (.iload i, 2)) (hl : L[i]? = some (some (vI z))) (kk : qV l M R EX G h0 sz0 k n h sz (pc + 2) L (vI z :: st)) : qV l M R EX G h0 sz0 k n h sz pc L st :=
  fun D p e s m args below meth c H locs ls hF hK hE hz hR hS hA hL => lv_iload hF.1 hF.2.1 hd (hL.2.2 i _ hl) (kk D p e s m args below meth c H locs ls hF hK hE hz hR hS hA hL)
theorem qV_lload_n {j : Fin 4} (i : Nat) {z : Int} (hd : decode M.2.1 pc = .ok (.lload_n j, 1)) (hi : (j : Nat) = i) (hl : L[i]? = some (some (vL z))) (kk : qV l M R EX G h0 sz0 k n h sz (pc + 1) L (vL z :: st)) : qV l M R EX G h0 sz0 k n h sz pc L st :=
  fun D p e s m args below meth c H locs ls hF hK hE hz hR hS hA hL => lv_lload_n hF.1 hF.2.1 hd hi (hL.2.2 i _ hl) (kk D p e s m args below meth c H locs ls hF hK hE hz hR hS hA hL)
theorem qV_aload_n {j : Fin 4} (i : Nat) {a : Nat} (hd : decode M.2.1 pc = .ok (.aload_n j, 1)) (hi : (j : Nat) = i) (hl : L[i]? = some (some (.ref a))) (kk : qV l M R EX G h0 sz0 k n h sz (pc + 1) L (.ref a :: st)) : qV l M R EX G h0 sz0 k n h sz pc L st :=
  fun D p e s m args below meth c H locs ls hF hK hE hz hR hS hA hL => lv_aload_n hF.1 hF.2.1 hd hi (hL.2.2 i _ hl) (kk D p e s m args below meth c H locs ls hF hK hE hz hR hS hA hL)
theorem qV_aload (i : Nat) {a : Nat} (hd : decode M.2.1 pc = .ok (.aload i, 2)) (hl : L[i]? = some (some (.ref a))) (kk : qV l M R EX G h0 sz0 k n h sz (pc + 2) L (.ref a :: st)) : qV l M R EX G h0 sz0 k n h sz pc L st :=
  fun D p e s m args below meth c H locs ls hF hK hE hz hR hS hA hL => lv_aload hF.1 hF.2.1 hd (hL.2.2 i _ hl) (kk D p e s m args below meth c H locs ls hF hK hE hz hR hS hA hL)
theorem qV_aload_nN {j : Fin 4} (i : Nat) (hd : decode M.2.1 pc = .ok (.aload_n j, 1)) (hi : (j : Nat) = i) (hl : L[i]? = some (some .null)) (kk : qV l M R EX G h0 sz0 k n h sz (pc + 1) L (.null :: st)) : qV l M R EX G h0 sz0 k n h sz pc L st :=
  fun D p e s m args below meth c H locs ls hF hK hE hz hR hS hA hL => lv_aload_nN hF.1 hF.2.1 hd hi (hL.2.2 i _ hl) (kk D p e s m args below meth c H locs ls hF hK hE hz hR hS hA hL)
theorem qL.len {ls : Array Slot} {nL i : Nat} {L : List (Option Value)} (h : qL ls nL L) (hn : decide (i < nL) = true) : i < nL := of_decide_eq_true hn
theorem qV_istore_n {j : Fin 4} (i : Nat) {z : Int} (hd : decode M.2.1 pc = .ok (.istore_n j, 1)) (hi : (j : Nat) = i) (hn : i < M.2.2.1) (hl : i < L.length) (hok : qok L i = true) (kk : qV l M R EX G h0 sz0 k n h sz (pc + 1) (L.set i (some (vI z))) st) : qV l M R EX G h0 sz0 k n h sz pc L (vI z :: st) :=
  fun D p e s m args below meth c H locs ls hF hK hE hz hR hS hA hL => lv_istore_n hF.1 hF.2.1 hd hi hL.has hn rfl (fun ls' h' => kk D p e s m args below meth c H locs ls' hF hK hE hz hR hS hA (qL.set1 hok hl h'))
theorem qV_istore (i : Nat) {z : Int} (hd : decode M.2.1 pc = .ok (.istore i, 2)) (hn : i < M.2.2.1) (hl : i < L.length) (hok : qok L i = true) (kk : qV l M R EX G h0 sz0 k n h sz (pc + 2) (L.set i (some (vI z))) st) : qV l M R EX G h0 sz0 k n h sz pc L (vI z :: st) :=
  fun D p e s m args below meth c H locs ls hF hK hE hz hR hS hA hL => lv_istore hF.1 hF.2.1 hd hL.has hn rfl (fun ls' h' => kk D p e s m args below meth c H locs ls' hF hK hE hz hR hS hA (qL.set1 hok hl h'))
theorem qV_lstore_n {j : Fin 4} (i : Nat) {z : Int} (hd : decode M.2.1 pc = .ok (.lstore_n j, 1)) (hi : (j : Nat) = i) (hn : i + 1 < M.2.2.1) (hl : i + 1 < L.length) (hok : qok L i = true) (kk : qV l M R EX G h0 sz0 k n h sz (pc + 1) ((L.set i (some (vL z))).set (i + 1) none) st) : qV l M R EX G h0 sz0 k n h sz pc L (vL z :: st) :=
  fun D p e s m args below meth c H locs ls hF hK hE hz hR hS hA hL => lv_lstore_n hF.1 hF.2.1 hd hi hL.has hn rfl (fun ls' h' => kk D p e s m args below meth c H locs ls' hF hK hE hz hR hS hA (qL.set2 hok hl h'))
theorem qV_astore_n {j : Fin 4} (i : Nat) {a : Nat} (hd : decode M.2.1 pc = .ok (.astore_n j, 1)) (hi : (j : Nat) = i) (hn : i < M.2.2.1) (hl : i < L.length) (hok : qok L i = true) (kk : qV l M R EX G h0 sz0 k n h sz (pc + 1) (L.set i (some (.ref a))) st) : qV l M R EX G h0 sz0 k n h sz pc L (.ref a :: st) :=
  fun D p e s m args below meth c H locs ls hF hK hE hz hR hS hA hL => lv_astore_n hF.1 hF.2.1 hd hi hL.has hn rfl (fun ls' h' => kk D p e s m args below meth c H locs ls' hF hK hE hz hR hS hA (qL.set1 hok hl h'))
theorem qV_astore (i : Nat) {a : Nat} (hd : decode M.2.1 pc = .ok (.astore i, 2)) (hn : i < M.2.2.1) (hl : i < L.length) (hok : qok L i = true) (kk : qV l M R EX G h0 sz0 k n h sz (pc + 2) (L.set i (some (.ref a))) st) : qV l M R EX G h0 sz0 k n h sz pc L (.ref a :: st) :=
  fun D p e s m args below meth c H locs ls hF hK hE hz hR hS hA hL => lv_astore hF.1 hF.2.1 hd hL.has hn rfl (fun ls' h' => kk D p e s m args below meth c H locs ls' hF hK hE hz hR hS hA (qL.set1 hok hl h'))
theorem qV_astore_nN {j : Fin 4} (i : Nat) (hd : decode M.2.1 pc = .ok (.astore_n j, 1)) (hi : (j : Nat) = i) (hn : i < M.2.2.1) (hl : i < L.length) (hok : qok L i = true) (kk : qV l M R EX G h0 sz0 k n h sz (pc + 1) (L.set i (some .null)) st) : qV l M R EX G h0 sz0 k n h sz pc L (.null :: st) :=
  fun D p e s m args below meth c H locs ls hF hK hE hz hR hS hA hL => lv_astore_nN hF.1 hF.2.1 hd hi hL.has hn rfl (fun ls' h' => kk D p e s m args below meth c H locs ls' hF hK hE hz hR hS hA (qL.set1 hok hl h'))
theorem qV_iinc (i : Nat) {z d : Int} (hd : decode M.2.1 pc = .ok (.iinc i d, 3)) (hv : L[i]? = some (some (vI z))) (hn : i < M.2.2.1) (hl : i < L.length) (hok : qok L i = true) (kk : qV l M R EX G h0 sz0 k n h sz (pc + 3) (L.set i (some (vI (z + d)))) st) : qV l M R EX G h0 sz0 k n h sz pc L st :=
  fun D p e s m args below meth c H locs ls hF hK hE hz hR hS hA hL => by
    obtain ⟨q, hq⟩ := List.getElem?_of_mem (mem_qprs (q := (i, vI z)).mpr hv)
    exact lv_iinc hF.1 hF.2.1 hd hL.has hq (show Int32.ofInt z + Int32.ofInt d = Int32.ofInt (z + d) from (Int32.ofInt_add z d).symm) hn rfl (fun ls' h' => kk D p e s m args below meth c H locs ls' hF hK hE hz hR hS hA (qL.set1 hok hl h'))
theorem qV_iadd {a b : Int} (hd : decode M.2.1 pc = .ok (.iadd, 1)) (kk : qV l M R EX G h0 sz0 k n h sz (pc + 1) L (vI (a + b) :: st)) : qV l M R EX G h0 sz0 k n h sz pc L (vI b :: vI a :: st) :=
  qV.step (fun _ _ _ _ _ _ _ _ _ _ _ _ hx hb k => lv_iadd hx hb hd (by rw [← Int32.ofInt_add]; exact k)) kk
theorem qV_isub {a b : Int} (hd : decode M.2.1 pc = .ok (.isub, 1)) (kk : qV l M R EX G h0 sz0 k n h sz (pc + 1) L (vI (a - b) :: st)) : qV l M R EX G h0 sz0 k n h sz pc L (vI b :: vI a :: st) :=
  qV.step (fun _ _ _ _ _ _ _ _ _ _ _ _ hx hb k => lv_isub hx hb hd (by rw [← Int32.ofInt_sub]; exact k)) kk
theorem qV_imul {a b : Int} (hd : decode M.2.1 pc = .ok (.imul, 1)) (kk : qV l M R EX G h0 sz0 k n h sz (pc + 1) L (vI (a * b) :: st)) : qV l M R EX G h0 sz0 k n h sz pc L (vI b :: vI a :: st) :=
  qV.step (fun _ _ _ _ _ _ _ _ _ _ _ _ hx hb k => lv_imul hx hb hd (by rw [← Int32.ofInt_mul]; exact k)) kk
theorem iR_toInt {z : Int} (h : iR z) : (Int32.ofInt z).toInt = z := Int32.toInt_ofInt_of_le (by have := h.1; omega) (by have := h.2; omega)
theorem iR_ne0 {z : Int} (h : iR z) (h0 : z ≠ 0) : ¬ Int32.ofInt z = 0 := fun e => h0 (by
  have := congrArg Int32.toInt e
  rw [iR_toInt h] at this
  simpa using this)
theorem iR_div {a b : Int} (ha : 0 ≤ a) (ha2 : a < 2147483648) (hb : 0 < b) (hb2 : b < 2147483648) : Int32.ofInt a / Int32.ofInt b = Int32.ofInt (a / b) := by
  have hq : 0 ≤ a / b := Int.ediv_nonneg ha (by omega)
  have hq2 : a / b ≤ a := Int.ediv_le_self b ha
  apply Int32.toInt.inj
  rw [Int32.toInt_div_of_ne_left, iR_toInt ⟨by omega, ha2⟩, iR_toInt ⟨by omega, hb2⟩, iR_toInt ⟨by omega, by omega⟩, Int.tdiv_eq_ediv_of_nonneg ha]
  intro e
  have := congrArg Int32.toInt e
  rw [iR_toInt ⟨by omega, ha2⟩] at this
  have h2 : Int32.minValue.toInt = -2147483648 := by decide
  omega
theorem qV_idiv {a b : Int} (hd : decode M.2.1 pc = .ok (.idiv, 1)) (hr : 0 ≤ a ∧ a < 2147483648 ∧ 0 < b ∧ b < 2147483648) (kk : qV l M R EX G h0 sz0 k n h sz (pc + 1) L (vI (a / b) :: st)) : qV l M R EX G h0 sz0 k n h sz pc L (vI b :: vI a :: st) :=
  qV.step (fun _ _ _ _ _ _ _ _ _ _ _ _ hx hb k => lv_idiv hx hb hd (iR_ne0 ⟨by omega, hr.2.2.2⟩ (by omega)) (by rw [iR_div hr.1 hr.2.1 hr.2.2.1 hr.2.2.2]; exact k)) kk
theorem qV_irem {a b : Int} (hd : decode M.2.1 pc = .ok (.irem, 1)) (hr : 0 ≤ a ∧ a < 2147483648 ∧ 0 < b ∧ b < 2147483648) (kk : qV l M R EX G h0 sz0 k n h sz (pc + 1) L (vI (a % b) :: st)) : qV l M R EX G h0 sz0 k n h sz pc L (vI b :: vI a :: st) :=
  qV.step (fun _ _ _ _ _ _ _ _ _ _ _ _ hx hb k => lv_irem hx hb hd (iR_ne0 ⟨by omega, hr.2.2.2⟩ (by omega)) (by
    rw [iR_div hr.1 hr.2.1 hr.2.2.1 hr.2.2.2, ← Int32.ofInt_mul, ← Int32.ofInt_sub, show a - a / b * b = a % b by rw [Int.emod_def, Int.mul_comm b]]; exact k)) kk
theorem iR_i2l {a : Int} (hr : iR a) : (Int32.ofInt a).toInt64 = Int64.ofInt a := by
  have h1 : Int32.minValue.toInt = -2147483648 := by decide
  have h2 : Int32.maxValue.toInt = 2147483647 := by decide
  exact Int32.toInt64_ofInt (by rw [h1]; exact hr.1) (by rw [h2]; have := hr.2; omega)
theorem qV_i2l {a : Int} (hd : decode M.2.1 pc = .ok (.i2l, 1)) (hr : iR a) (kk : qV l M R EX G h0 sz0 k n h sz (pc + 1) L (vL a :: st)) : qV l M R EX G h0 sz0 k n h sz pc L (vI a :: st) :=
  qV.step (fun _ _ _ _ _ _ _ _ _ _ _ _ hx hb k => lv_i2l hx hb hd (iR_i2l hr) k) kk
theorem qV_ladd {a b : Int} (hd : decode M.2.1 pc = .ok (.ladd, 1)) (kk : qV l M R EX G h0 sz0 k n h sz (pc + 1) L (vL (a + b) :: st)) : qV l M R EX G h0 sz0 k n h sz pc L (vL b :: vL a :: st) :=
  qV.step (fun _ _ _ _ _ _ _ _ _ _ _ _ hx hb k => lv_ladd hx hb hd (by rw [← Int64.ofInt_add]; exact k)) kk
theorem qV_lmul {a b : Int} (hd : decode M.2.1 pc = .ok (.lmul, 1)) (kk : qV l M R EX G h0 sz0 k n h sz (pc + 1) L (vL (a * b) :: st)) : qV l M R EX G h0 sz0 k n h sz pc L (vL b :: vL a :: st) :=
  qV.step (fun _ _ _ _ _ _ _ _ _ _ _ _ hx hb k => lv_lmul hx hb hd (by rw [← Int64.ofInt_mul]; exact k)) kk
theorem qV_ldc2 {idx : Nat} {cz : Int64} (z : Int) (hz : Int64.ofInt z = cz) (hd : decode M.2.1 pc = .ok (.ldc2_w idx, 3)) (hw : Cond.constantLong M.1.cls idx cz ∈ gt) (kk : qV l M R EX G h0 sz0 k n h sz (pc + 3) L (vL z :: st)) : qV l M R EX G h0 sz0 k n h sz pc L st := by
  subst hz
  exact fun D p e s m args below meth c H locs ls hF hK hE hz hR hS hA hL => lv_ldc2 hF.1 hF.2.1 hF.2.2.2.1 (hF.2.2.2.2.1 _ hw) hd (kk D p e s m args below meth c H locs ls hF hK hE hz hR hS hA hL)
theorem qV_dup {v : Value} (hd : decode M.2.1 pc = .ok (.dup, 1)) (hv : v.category = 1) (kk : qV l M R EX G h0 sz0 k n h sz (pc + 1) L (v :: v :: st)) : qV l M R EX G h0 sz0 k n h sz pc L (v :: st) :=
  qV.step (fun _ _ _ _ _ _ _ _ _ _ _ _ hx hb k => lv_dup hx hb hd hv k) kk
theorem qV_dup2 {v w : Value} (hd : decode M.2.1 pc = .ok (.dup2, 1)) (hv : v.category = 1) (hw : w.category = 1) (kk : qV l M R EX G h0 sz0 k n h sz (pc + 1) L (v :: w :: v :: w :: st)) : qV l M R EX G h0 sz0 k n h sz pc L (v :: w :: st) :=
  qV.step (fun _ _ _ _ _ _ _ _ _ _ _ _ hx hb k => lv_dup2_11 hx hb hd hv hw k) kk
theorem qV_goto {off : Int} (tgt : Nat) (hd : decode M.2.1 pc = .ok (.goto off, 3)) (ht : (pc : Int) + off = (tgt : Int)) (kk : qV l M R EX G h0 sz0 k n h sz tgt L st) : qV l M R EX G h0 sz0 k n h sz pc L st :=
  qV.step (fun _ _ _ _ _ _ _ _ _ _ _ _ hx hb k => lv_goto hx hb hd ht k) kk
/-- two ways on -/
theorem qV.fork {P : Prop} {pc1 pc2 : Nat} {st1 : List Value} (f : ∀ (p : Program) (e : Env) (s : State) (m : MethodId) (args : Array Value) (below : List Frame) (meth : Method) (c : Code) (H : Heap) (locs : List Loc) (ls : Array Slot) (Z : State → Prop), p.tables.exec = Jvm.exec → c.code = M.2.1 → (P → W p l e R s m args below meth c H locs k n Z (F0 m pc1 ls st1)) → (¬ P → W p l e R s m args below meth c H locs k n Z (F0 m pc2 ls st1)) → W p l e R s m args below meth c H locs k n Z (F0 m pc ls st))
    (kt : P → qV l M R EX G h0 sz0 k n h sz pc1 L st1) (kf : ¬ P → qV l M R EX G h0 sz0 k n h sz pc2 L st1) : qV l M R EX G h0 sz0 k n h sz pc L st :=
  fun D p e s m args below meth c H locs ls hF hK hE hz hR hS hA hL => f p e s m args below meth c H locs ls _ hF.1 hF.2.1 (fun q => kt q D p e s m args below meth c H locs ls hF hK hE hz hR hS hA hL) (fun q => kf q D p e s m args below meth c H locs ls hF hK hE hz hR hS hA hL)
theorem iR_lt {a b : Int} (ha : iR a) (hb : iR b) : Int32.ofInt a < Int32.ofInt b ↔ a < b := by rw [Int32.lt_iff_toInt_lt, iR_toInt ha, iR_toInt hb]
theorem iR_le {a b : Int} (ha : iR a) (hb : iR b) : Int32.ofInt a ≤ Int32.ofInt b ↔ a ≤ b := by rw [Int32.le_iff_toInt_le, iR_toInt ha, iR_toInt hb]
theorem iR_eq {a b : Int} (ha : iR a) (hb : iR b) : Int32.ofInt a = Int32.ofInt b ↔ a = b := ⟨fun e => by have := congrArg Int32.toInt e; rwa [iR_toInt ha, iR_toInt hb] at this, fun e => by rw [e]⟩
theorem qV_icmp_lt {a b off : Int} (tgt : Nat) (hd : decode M.2.1 pc = .ok (.if_icmp .lt off, 3)) (ht : (pc : Int) + off = (tgt : Int)) (ha : iR a) (hb : iR b) (kt : a < b → qV l M R EX G h0 sz0 k n h sz tgt L st) (kf : ¬ a < b → qV l M R EX G h0 sz0 k n h sz (pc + 3) L st) : qV l M R EX G h0 sz0 k n h sz pc L (vI b :: vI a :: st) :=
  qV.fork (P := a < b) (fun _ _ _ _ _ _ _ _ _ _ _ _ hx hc k1 k2 => lv_icmp_lt hx hc hd ht (fun q => k1 ((iR_lt ha hb).mp q)) (fun q => k2 (fun z => q ((iR_lt ha hb).mpr z)))) kt kf
theorem qV_icmp_ge {a b off : Int} (tgt : Nat) (hd : decode M.2.1 pc = .ok (.if_icmp .ge off, 3)) (ht : (pc : Int) + off = (tgt : Int)) (ha : iR a) (hb : iR b) (kt : b ≤ a → qV l M R EX G h0 sz0 k n h sz tgt L st) (kf : ¬ b ≤ a → qV l M R EX G h0 sz0 k n h sz (pc + 3) L st) : qV l M R EX G h0 sz0 k n h sz pc L (vI b :: vI a :: st) :=
  qV.fork (P := b ≤ a) (fun _ _ _ _ _ _ _ _ _ _ _ _ hx hc k1 k2 => lv_icmp_ge hx hc hd ht (fun q => k1 ((iR_le hb ha).mp q)) (fun q => k2 (fun z => q ((iR_le hb ha).mpr z)))) kt kf
theorem qV_icmp_gt {a b off : Int} (tgt : Nat) (hd : decode M.2.1 pc = .ok (.if_icmp .gt off, 3)) (ht : (pc : Int) + off = (tgt : Int)) (ha : iR a) (hb : iR b) (kt : b < a → qV l M R EX G h0 sz0 k n h sz tgt L st) (kf : ¬ b < a → qV l M R EX G h0 sz0 k n h sz (pc + 3) L st) : qV l M R EX G h0 sz0 k n h sz pc L (vI b :: vI a :: st) :=
  qV.fork (P := b < a) (fun _ _ _ _ _ _ _ _ _ _ _ _ hx hc k1 k2 => lv_icmp_gt hx hc hd ht (fun q => k1 ((iR_lt hb ha).mp q)) (fun q => k2 (fun z => q ((iR_lt hb ha).mpr z)))) kt kf
theorem qV_icmp_le {a b off : Int} (tgt : Nat) (hd : decode M.2.1 pc = .ok (.if_icmp .le off, 3)) (ht : (pc : Int) + off = (tgt : Int)) (ha : iR a) (hb : iR b) (kt : a ≤ b → qV l M R EX G h0 sz0 k n h sz tgt L st) (kf : ¬ a ≤ b → qV l M R EX G h0 sz0 k n h sz (pc + 3) L st) : qV l M R EX G h0 sz0 k n h sz pc L (vI b :: vI a :: st) :=
  qV.fork (P := a ≤ b) (fun _ _ _ _ _ _ _ _ _ _ _ _ hx hc k1 k2 => lv_icmp_le hx hc hd ht (fun q => k1 ((iR_le ha hb).mp q)) (fun q => k2 (fun z => q ((iR_le ha hb).mpr z)))) kt kf
theorem qV_icmp_eq {a b off : Int} (tgt : Nat) (hd : decode M.2.1 pc = .ok (.if_icmp .eq off, 3)) (ht : (pc : Int) + off = (tgt : Int)) (ha : iR a) (hb : iR b) (kt : a = b → qV l M R EX G h0 sz0 k n h sz tgt L st) (kf : ¬ a = b → qV l M R EX G h0 sz0 k n h sz (pc + 3) L st) : qV l M R EX G h0 sz0 k n h sz pc L (vI b :: vI a :: st) :=
  qV.fork (P := a = b) (fun _ _ _ _ _ _ _ _ _ _ _ _ hx hc k1 k2 => lv_icmp_eq hx hc hd ht (fun q => k1 ((iR_eq ha hb).mp q)) (fun q => k2 (fun z => q ((iR_eq ha hb).mpr z)))) kt kf
theorem qV_icmp_ne {a b off : Int} (tgt : Nat) (hd : decode M.2.1 pc = .ok (.if_icmp .ne off, 3)) (ht : (pc : Int) + off = (tgt : Int)) (ha : iR a) (hb : iR b) (kt : ¬ a = b → qV l M R EX G h0 sz0 k n h sz tgt L st) (kf : a = b → qV l M R EX G h0 sz0 k n h sz (pc + 3) L st) : qV l M R EX G h0 sz0 k n h sz pc L (vI b :: vI a :: st) :=
  qV.fork (P := ¬ a = b) (fun _ _ _ _ _ _ _ _ _ _ _ _ hx hc k1 k2 => lv_icmp_ne hx hc hd ht (fun q => k1 (fun z => q ((iR_eq ha hb).mpr z))) (fun q => k2 (fun z => z ((iR_eq ha hb).mp q)))) kt (fun q => kf (Classical.byContradiction q))
/-- the same number twice -/
theorem qV_same {v : Value} {z off : Int} (tgt : Nat) (hv : v = vI z) (hd : decode M.2.1 pc = .ok (.if_icmp .eq off, 3)) (ht : (pc : Int) + off = (tgt : Int)) (kt : qV l M R EX G h0 sz0 k n h sz tgt L st) : qV l M R EX G h0 sz0 k n h sz pc L (v :: v :: st) := by
  subst hv
  exact qV.fork (P := True) (st1 := st) (pc2 := pc + 3) (fun _ _ _ _ _ _ _ _ _ _ _ _ hx hc k1 k2 => lv_icmp_eq hx hc hd ht (fun q => k1 trivial) (fun q => absurd rfl q)) (fun _ => kt) (fun q => absurd trivial q)
theorem iR_lt0 {a : Int} (ha : iR a) : Int32.ofInt a < 0 ↔ a < 0 := iR_lt (b := 0) ha ⟨by decide, by decide⟩
theorem iR_le0 {a : Int} (ha : iR a) : Int32.ofInt a ≤ 0 ↔ a ≤ 0 := iR_le (b := 0) ha ⟨by decide, by decide⟩
theorem iR_0lt {a : Int} (ha : iR a) : 0 < Int32.ofInt a ↔ 0 < a := iR_lt (a := 0) ⟨by decide, by decide⟩ ha
theorem iR_0le {a : Int} (ha : iR a) : 0 ≤ Int32.ofInt a ↔ 0 ≤ a := iR_le (a := 0) ⟨by decide, by decide⟩ ha
theorem iR_eq0 {a : Int} (ha : iR a) : Int32.ofInt a = 0 ↔ a = 0 := iR_eq (b := 0) ha ⟨by decide, by decide⟩
theorem qV_iflt {a off : Int} (tgt : Nat) (hd : decode M.2.1 pc = .ok (.ifCond .lt off, 3)) (ht : (pc : Int) + off = (tgt : Int)) (ha : iR a) (kt : a < 0 → qV l M R EX G h0 sz0 k n h sz tgt L st) (kf : ¬ a < 0 → qV l M R EX G h0 sz0 k n h sz (pc + 3) L st) : qV l M R EX G h0 sz0 k n h sz pc L (vI a :: st) :=
  qV.fork (P := a < 0) (fun _ _ _ _ _ _ _ _ _ _ _ _ hx hc k1 k2 => lv_if_lt hx hc hd ht (fun q => k1 ((iR_lt0 ha).mp q)) (fun q => k2 (fun z => q ((iR_lt0 ha).mpr z)))) kt kf
theorem qV_ifle {a off : Int} (tgt : Nat) (hd : decode M.2.1 pc = .ok (.ifCond .le off, 3)) (ht : (pc : Int) + off = (tgt : Int)) (ha : iR a) (kt : a ≤ 0 → qV l M R EX G h0 sz0 k n h sz tgt L st) (kf : ¬ a ≤ 0 → qV l M R EX G h0 sz0 k n h sz (pc + 3) L st) : qV l M R EX G h0 sz0 k n h sz pc L (vI a :: st) :=
  qV.fork (P := a ≤ 0) (fun _ _ _ _ _ _ _ _ _ _ _ _ hx hc k1 k2 => lv_if_le hx hc hd ht (fun q => k1 ((iR_le0 ha).mp q)) (fun q => k2 (fun z => q ((iR_le0 ha).mpr z)))) kt kf
theorem qV_ifgt {a off : Int} (tgt : Nat) (hd : decode M.2.1 pc = .ok (.ifCond .gt off, 3)) (ht : (pc : Int) + off = (tgt : Int)) (ha : iR a) (kt : 0 < a → qV l M R EX G h0 sz0 k n h sz tgt L st) (kf : ¬ 0 < a → qV l M R EX G h0 sz0 k n h sz (pc + 3) L st) : qV l M R EX G h0 sz0 k n h sz pc L (vI a :: st) :=
  qV.fork (P := 0 < a) (fun _ _ _ _ _ _ _ _ _ _ _ _ hx hc k1 k2 => lv_if_gt hx hc hd ht (fun q => k1 ((iR_0lt ha).mp q)) (fun q => k2 (fun z => q ((iR_0lt ha).mpr z)))) kt kf
theorem qV_ifge {a off : Int} (tgt : Nat) (hd : decode M.2.1 pc = .ok (.ifCond .ge off, 3)) (ht : (pc : Int) + off = (tgt : Int)) (ha : iR a) (kt : 0 ≤ a → qV l M R EX G h0 sz0 k n h sz tgt L st) (kf : ¬ 0 ≤ a → qV l M R EX G h0 sz0 k n h sz (pc + 3) L st) : qV l M R EX G h0 sz0 k n h sz pc L (vI a :: st) :=
  qV.fork (P := 0 ≤ a) (fun _ _ _ _ _ _ _ _ _ _ _ _ hx hc k1 k2 => lv_if_ge hx hc hd ht (fun q => k1 ((iR_0le ha).mp q)) (fun q => k2 (fun z => q ((iR_0le ha).mpr z)))) kt kf
theorem qV_ifeq {a off : Int} (tgt : Nat) (hd : decode M.2.1 pc = .ok (.ifCond .eq off, 3)) (ht : (pc : Int) + off = (tgt : Int)) (ha : iR a) (kt : a = 0 → qV l M R EX G h0 sz0 k n h sz tgt L st) (kf : ¬ a = 0 → qV l M R EX G h0 sz0 k n h sz (pc + 3) L st) : qV l M R EX G h0 sz0 k n h sz pc L (vI a :: st) :=
  qV.fork (P := a = 0) (fun _ _ _ _ _ _ _ _ _ _ _ _ hx hc k1 k2 => lv_if_eq hx hc hd ht (fun q => k1 ((iR_eq0 ha).mp q)) (fun q => k2 (fun z => q ((iR_eq0 ha).mpr z)))) kt kf
theorem qV_ifne {a off : Int} (tgt : Nat) (hd : decode M.2.1 pc = .ok (.ifCond .ne off, 3)) (ht : (pc : Int) + off = (tgt : Int)) (ha : iR a) (kt : ¬ a = 0 → qV l M R EX G h0 sz0 k n h sz tgt L st) (kf : a = 0 → qV l M R EX G h0 sz0 k n h sz (pc + 3) L st) : qV l M R EX G h0 sz0 k n h sz pc L (vI a :: st) :=
  qV.fork (P := ¬ a = 0) (fun _ _ _ _ _ _ _ _ _ _ _ _ hx hc k1 k2 => lv_if_ne hx hc hd ht (fun q => k1 (fun z => q ((iR_eq0 ha).mpr z))) (fun q => k2 (fun z => z ((iR_eq0 ha).mp q)))) kt (fun q => kf (Classical.byContradiction q))
theorem iR_B (P : Prop) [Decidable P] : iR (if P then 1 else 0) := by split <;> exact ⟨by decide, by decide⟩
theorem qV_ifeqB {P : Prop} [Decidable P] {off : Int} (tgt : Nat) (hd : decode M.2.1 pc = .ok (.ifCond .eq off, 3)) (ht : (pc : Int) + off = (tgt : Int)) (kt : ¬ P → qV l M R EX G h0 sz0 k n h sz tgt L st) (kf : P → qV l M R EX G h0 sz0 k n h sz (pc + 3) L st) : qV l M R EX G h0 sz0 k n h sz pc L (vB P :: st) :=
  qV_ifeq tgt hd ht (iR_B P) (fun q => kt (fun z => by rw [if_pos z] at q; cases q)) (fun q => kf (Classical.byContradiction fun z => q (if_neg z)))
theorem qV_ifneB {P : Prop} [Decidable P] {off : Int} (tgt : Nat) (hd : decode M.2.1 pc = .ok (.ifCond .ne off, 3)) (ht : (pc : Int) + off = (tgt : Int)) (kt : P → qV l M R EX G h0 sz0 k n h sz tgt L st) (kf : ¬ P → qV l M R EX G h0 sz0 k n h sz (pc + 3) L st) : qV l M R EX G h0 sz0 k n h sz pc L (vB P :: st) :=
  qV_ifne tgt hd ht (iR_B P) (fun q => kt (Classical.byContradiction fun z => q (if_neg z))) (fun q => kf (fun z => by rw [if_pos z] at q; cases q))
theorem qV_ifnonnull {a : Nat} {off : Int} (tgt : Nat) (hd : decode M.2.1 pc = .ok (.ifnonnull off, 3)) (ht : (pc : Int) + off = (tgt : Int)) (kk : qV l M R EX G h0 sz0 k n h sz tgt L st) : qV l M R EX G h0 sz0 k n h sz pc L (.ref a :: st) :=
  qV.step (fun _ _ _ _ _ _ _ _ _ _ _ _ hx hb k => lv_ifnonnull hx hb hd ht k) kk
theorem qV_ifnull {a : Nat} {off : Int} (hd : decode M.2.1 pc = .ok (.ifnull off, 3)) (kk : qV l M R EX G h0 sz0 k n h sz (pc + 3) L st) : qV l M R EX G h0 sz0 k n h sz pc L (.ref a :: st) :=
  qV.step (fun _ _ _ _ _ _ _ _ _ _ _ _ hx hb k => lv_ifnull hx hb hd k) kk
theorem qV_ifnullN {off : Int} (tgt : Nat) (hd : decode M.2.1 pc = .ok (.ifnull off, 3)) (ht : (pc : Int) + off = (tgt : Int)) (kk : qV l M R EX G h0 sz0 k n h sz tgt L st) : qV l M R EX G h0 sz0 k n h sz pc L (.null :: st) :=
  qV.step (fun _ _ _ _ _ _ _ _ _ _ _ _ hx hb k => lv_ifnullN hx hb hd ht k) kk
theorem qV_ifnonnullN {off : Int} (hd : decode M.2.1 pc = .ok (.ifnonnull off, 3)) (kk : qV l M R EX G h0 sz0 k n h sz (pc + 3) L st) : qV l M R EX G h0 sz0 k n h sz pc L (.null :: st) :=
  qV.step (fun _ _ _ _ _ _ _ _ _ _ _ _ hx hb k => lv_ifnonnullN hx hb hd k) kk
end QV
