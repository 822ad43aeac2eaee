theorem le_b {a b : Nat} (h : Nat.ble a b = true) : a ≤ b := Nat.le_of_ble_eq_true h
section QW
variable {l : Launch} {M : MI} {R : Room} {EX : State → Array Value → Prop} {G : qG} {h0 : qH} {sz0 k n : Nat} {h : qH} {sz pc : Nat} {L : List (Option Value)} {st : List Value}
theorem qV_get {ci N idx a : Nat} {C : String} {T : u_T} {ty : Nat → FieldType} {fs : List Value} {v : Value} (hk : qK ci C T N ty) (kf : Nat) (hkN : kf < N) (hlk : Cond.fieldLink M.1.cls idx C (T kf).2.1 (T kf).2.2.1 ∈ gt) (hown : (T kf).1 = C) (hd : decode M.2.1 pc = .ok (.getfield idx, 3)) (ha : h a = some (oB ci fs)) (hv : fs[kf]? = some v) (kk : qV l M R EX G h0 sz0 k n h sz (pc + 3) L (v :: st)) : qV l M R EX G h0 sz0 k n h sz pc L (.ref a :: st) :=
  fun D p e s m args below meth c H locs ls hF hK hE hz hR hS hA hL => va_get hF.1 hF.2.1 hF.2.2.2.2.1 hk.2.1 hF.2.2.2.1 hK.1 (hR.one ha) 0 rfl hk.1 kf hkN (hF.2.2.2.2.1 _ hlk) (fun x hx => by rw [hown] at hx; exact hx) hv hd (kk D p e s m args below meth c H locs ls hF hK hE hz hR hS hA hL)
theorem qV_getN {ci N idx a : Nat} {C host : String} {T : u_T} {ty : Nat → FieldType} {fs : List Value} {v : Value} (hk : qK ci C T N ty) (kf : Nat) (hkN : kf < N) (hlk : Cond.fieldLinkNest M.1.cls idx C (T kf).2.1 (T kf).2.2.1 host ∈ nst) (hown : (T kf).1 = C) (hd : decode M.2.1 pc = .ok (.getfield idx, 3)) (ha : h a = some (oB ci fs)) (hv : fs[kf]? = some v) (kk : qV l M R EX G h0 sz0 k n h sz (pc + 3) L (v :: st)) : qV l M R EX G h0 sz0 k n h sz pc L (.ref a :: st) :=
  fun D p e s m args below meth c H locs ls hF hK hE hz hR hS hA hL => va_getN hF.1 hF.2.1 hF.2.2.2.2.1 hk.2.1 hF.2.2.2.1 hK.1 (hR.one ha) 0 rfl hk.1 kf hkN (va_Nw.use rfl (hK.2.1 _ hlk)) (fun x hx => by rw [hown] at hx; exact hx) hv hd (kk D p e s m args below meth c H locs ls hF hK hE hz hR hS hA hL)
theorem qA_set {h0 h : qH} {sz0 a : Nat} {e e0 : qE} (hA : ∀ q, h q ≠ none → qA h0 sz0 q) (ha : h a = some e0) : ∀ q, hU h a e q ≠ none → qA h0 sz0 q := fun q hq => by
  by_cases hqa : q = a
  · subst hqa
    exact hA q (by rw [ha]; exact fun z => by cases z)
  · rw [hU_ne hqa] at hq
    exact hA q hq
theorem qV_put {ci N idx a : Nat} {C : String} {T : u_T} {ty : Nat → FieldType} {fs : List Value} {v : Value} (hk : qK ci C T N ty) (kf : Nat) (hkN : kf < N) (hlk : Cond.fieldLink M.1.cls idx C (T kf).2.1 (T kf).2.2.1 ∈ gt) (hown : (T kf).1 = C) (hfin : (T kf).2.2.2 = false) (hn : narrow (ty kf) v = v) (hfit : fits (ty kf) v = true) (hd : decode M.2.1 pc = .ok (.putfield idx, 3)) (ha : h a = some (oB ci fs)) (hl : kf < fs.length) (kk : qV l M R EX G h0 sz0 k n (hU h a (oB ci (fs.set kf v))) sz (pc + 3) L st) : qV l M R EX G h0 sz0 k n h sz pc L (v :: .ref a :: st) := by
  intro D p e s m args below meth c H locs ls hF hK hE hz hR hS hA hL
  obtain ⟨hc, hin, hty, hnm⟩ := hk
  have hts := hF.2.2.2.2.1
  have hap := va_apart (own := M.1.cls) hts hin ty hty hnm hK.1 hc
  obtain ⟨r, h1, cell, q1, q2, q3, q4⟩ := hR.2 a _ ha
  have hr : r = (C, T, N) := Option.some.inj (h1.symm.trans hc)
  subst hr
  obtain ⟨hSl, hfc, kC, hkC, hkind⟩ := hK.1.1 ci _ hc
  obtain ⟨cf, kf', fi, f, hi, hsl⟩ := hSl kf hkN
  have hlay := hts _ (hin _ (u_in_lay hkN))
  unfold u_lay at hlay
  rw [if_neg (by rw [hfin]; decide)] at hlay
  have hst := (u_facts hfc hkC (u_lays hts hin hkN) hi).1
  have h6 := u_store hfc hkC hkind hlay hi (hty kf hkN) hn hfit
  refine W.putK hF.1 hF.2.1 (f := f) ⟨hF.2.2.2.1, hts _ hlk, ⟨_, _, _, by rw [hown] at hi; exact hi⟩, hst⟩ (by rw [q2]; exact h6) q1 q3 (by rw [hsl]; exact k2_hasslot (q4 kf hkN)) rfl rfl hd fun H' e1 e2 e3 => ?_
  rw [hsl] at e1 ⊢
  exact kk D p e s m args below meth c H' _ ls hF hK hE hz (hR.set e2 e3 ⟨_, hc, t_OB.to (V := updV (vp_V fs) kf v) ⟨_, e1, q2, q3, t_set q4 hap hkN v⟩ (fun j _ => vp_updV_set hl v j)⟩) (hS.put e2 e3 (hA a (by rw [ha]; exact fun z => by cases z))) (qA_set hA ha) hL
theorem qV_putF {ci N idx a : Nat} {C : String} {T : u_T} {ty : Nat → FieldType} {fs : List Value} {v : Value} (hk : qK ci C T N ty) (kf : Nat) (hkN : kf < N) (hlk : Cond.fieldLink M.1.cls idx C (T kf).2.1 (T kf).2.2.1 ∈ gt) (hown : (T kf).1 = C) (hfin : (T kf).2.2.2 = true) (hcls : C = M.1.cls) (hinit : M.1.name = "<init>") (hn : narrow (ty kf) v = v) (hfit : fits (ty kf) v = true) (hd : decode M.2.1 pc = .ok (.putfield idx, 3)) (ha : h a = some (oB ci fs)) (hl : kf < fs.length) (kk : qV l M R EX G h0 sz0 k n (hU h a (oB ci (fs.set kf v))) sz (pc + 3) L st) : qV l M R EX G h0 sz0 k n h sz pc L (v :: .ref a :: st) := by
  intro D p e s m args below meth c H locs ls hF hK hE hz hR hS hA hL
  obtain ⟨hc, hin, hty, hnm⟩ := hk
  have hts := hF.2.2.2.2.1
  have hap := va_apart (own := M.1.cls) hts hin ty hty hnm hK.1 hc
  obtain ⟨r, h1, cell, q1, q2, q3, q4⟩ := hR.2 a _ ha
  have hr : r = (C, T, N) := Option.some.inj (h1.symm.trans hc)
  subst hr
  obtain ⟨hSl, hfc, kC, hkC, hkind⟩ := hK.1.1 ci _ hc
  obtain ⟨cf, kf', fi, f, hi, hsl⟩ := hSl kf hkN
  have hlay := hts _ (hin _ (u_in_lay hkN))
  unfold u_lay at hlay
  rw [if_pos hfin] at hlay
  have hst := (u_facts hfc hkC (u_lays hts hin hkN) hi).1
  have hcf : m.cls = cf := by
    obtain ⟨_, _, c', _, _, _, -, -, hf', -, -, -, hown2, -⟩ := Cond.laysFinal_spec hlay
    have e1 : c' = cf := by have := hi.symm.trans hf'; simp at this; exact this.1.symm
    rw [hown, hcls] at hown2
    rw [← e1]; exact Option.some.inj (hF.2.2.2.1.symm.trans hown2)
  have h6 := u_fits hfc hkC hkind (Or.inr hlay) hi (hty kf hkN) hn hfit
  refine W.putFinK hF.1 hF.2.1 hF.2.2.2.1 (hts _ hlk) (by rw [hown] at hi; exact hi) hst hcf (hF.2.2.2.2.2.2.2.trans hinit) (by rw [q2]; exact h6) q1 q3 (by rw [hsl]; exact k2_hasslot (q4 kf hkN)) rfl rfl hd fun H' e1 e2 e3 => ?_
  rw [hsl] at e1 ⊢
  exact kk D p e s m args below meth c H' _ ls hF hK hE hz (hR.set e2 e3 ⟨_, hc, t_OB.to (V := updV (vp_V fs) kf v) ⟨_, e1, q2, q3, t_set q4 hap hkN v⟩ (fun j _ => vp_updV_set hl v j)⟩) (hS.put e2 e3 (hA a (by rw [ha]; exact fun z => by cases z))) (qA_set hA ha) hL
theorem iR_in {z : Int} {N : Nat} (h : 0 ≤ z ∧ z < N ∧ z < 2147483648) : vp_in (Int32.ofInt z) N := vp_in_iff.mpr (by rw [iR_toInt ⟨by omega, h.2.2⟩]; exact ⟨h.1, h.2.1⟩)
theorem iR_cl {z : Int} (h : 0 ≤ z ∧ z < 2147483648) : (Int32.ofInt z).toNatClampNeg = z.toNat := Int32.toNatClampNeg_ofInt_of_le (by omega) (by omega)
theorem qV_iald {a N : Nat} {f : Nat → Int} {z : Int} (hd : decode M.2.1 pc = .ok (.iaload, 1)) (ha : h a = some (iA 0 N f)) (hz : 0 ≤ z ∧ z < N ∧ z < 2147483648) (kk : qV l M R EX G h0 sz0 k n h sz (pc + 1) L (vI (f z.toNat) :: st)) : qV l M R EX G h0 sz0 k n h sz pc L (vI z :: .ref a :: st) := by
  intro D p e s m args below meth c H locs ls hF hK hE hz' hR hS hA hL
  obtain ⟨cA, hT, hc⟩ := hR.2 a _ ha
  have hin := iR_in hz
  have hlt : (Int32.ofInt z).toNatClampNeg < N := Nat.not_le.mp fun q => hin (Or.inr q)
  refine W.iald (v := .int (Int32.ofInt (f z.toNat))) hF.1 hF.2.1 hc (hT.1 N (fun j => .int (Int32.ofInt (f j)))) (fun q => by cases q) (by show ¬ (_ ∨ (arrV _ _ _).slots.size ≤ _); rw [arrV_size]; exact hin) (by show (arrV _ _ _).slots[_]? = _; rw [arrV_read _ _ hlt, iR_cl ⟨hz.1, hz.2.2⟩]) rfl rfl hd ?_
  exact kk D p e s m args below meth c H locs ls hF hK hE hz' hR hS hA hL
theorem qV_zald {a N : Nat} {f : Nat → Int} {z : Int} (hd : decode M.2.1 pc = .ok (.baload, 1)) (ha : h a = some (iA 1 N f)) (hz : 0 ≤ z ∧ z < N ∧ z < 2147483648) (kk : qV l M R EX G h0 sz0 k n h sz (pc + 1) L (vI (f z.toNat) :: st)) : qV l M R EX G h0 sz0 k n h sz pc L (vI z :: .ref a :: st) := by
  intro D p e s m args below meth c H locs ls hF hK hE hz' hR hS hA hL
  obtain ⟨cA, hT, hc⟩ := hR.2 a _ ha
  have hin := iR_in hz
  have hlt : (Int32.ofInt z).toNatClampNeg < N := Nat.not_le.mp fun q => hin (Or.inr q)
  refine W.zald (v := .int (Int32.ofInt (f z.toNat))) hF.1 hF.2.1 hc (hT.1 N (fun j => .int (Int32.ofInt (f j)))) (fun q => by cases q) (by show ¬ (_ ∨ (arrV _ _ _).slots.size ≤ _); rw [arrV_size]; exact hin) (by show (arrV _ _ _).slots[_]? = _; rw [arrV_read _ _ hlt, iR_cl ⟨hz.1, hz.2.2⟩]) rfl rfl hd ?_
  exact kk D p e s m args below meth c H locs ls hF hK hE hz' hR hS hA hL
theorem qV_aald {a N kd : Nat} {f : Nat → Option Nat} {z : Int} (hkd : (aty kd).isReference = true) (hd : decode M.2.1 pc = .ok (.aaload, 1)) (ha : h a = some (rA kd N f)) (hz : 0 ≤ z ∧ z < N ∧ z < 2147483648) (kk : qV l M R EX G h0 sz0 k n h sz (pc + 1) L (va_rf (f z.toNat) :: st)) : qV l M R EX G h0 sz0 k n h sz pc L (vI z :: .ref a :: st) := by
  intro D p e s m args below meth c H locs ls hF hK hE hz' hR hS hA hL
  obtain ⟨cA, hT, hc⟩ := hR.2 a _ ha
  have hin := iR_in hz
  have hlt : (Int32.ofInt z).toNatClampNeg < N := Nat.not_le.mp fun q => hin (Or.inr q)
  refine W.aald (v := va_rf (f z.toNat)) (ty := aty kd) hF.1 hF.2.1 hc (hT.1 N (fun j => va_rf (f j))) hkd (fun q => by cases q) (by show ¬ (_ ∨ (arrV _ _ _).slots.size ≤ _); rw [arrV_size]; exact hin) (by show (arrV _ _ _).slots[_]? = _; rw [arrV_read _ _ hlt, iR_cl ⟨hz.1, hz.2.2⟩]) rfl rfl hd ?_
  exact kk D p e s m args below meth c H locs ls hF hK hE hz' hR hS hA hL
theorem qV_alen {a N kd : Nat} {f : Nat → Int} (hd : decode M.2.1 pc = .ok (.arraylength, 1)) (ha : h a = some (iA kd N f)) (kk : qV l M R EX G h0 sz0 k n h sz (pc + 1) L (vI N :: st)) : qV l M R EX G h0 sz0 k n h sz pc L (.ref a :: st) := by
  intro D p e s m args below meth c H locs ls hF hK hE hz' hR hS hA hL
  obtain ⟨cA, hT, hc⟩ := hR.2 a _ ha
  exact W.alen (n := Int32.ofInt N) hF.1 hF.2.1 hc (hT.1 N (fun j => .int (Int32.ofInt (f j)))) (by rw [vp_cell_i, arrV_size] <;> rfl) rfl rfl hd (kk D p e s m args below meth c H locs ls hF hK hE hz' hR hS hA hL)
theorem qV_alenR {a N kd : Nat} {f : Nat → Option Nat} (hd : decode M.2.1 pc = .ok (.arraylength, 1)) (ha : h a = some (rA kd N f)) (kk : qV l M R EX G h0 sz0 k n h sz (pc + 1) L (vI N :: st)) : qV l M R EX G h0 sz0 k n h sz pc L (.ref a :: st) := by
  intro D p e s m args below meth c H locs ls hF hK hE hz' hR hS hA hL
  obtain ⟨cA, hT, hc⟩ := hR.2 a _ ha
  exact W.alen (n := Int32.ofInt N) hF.1 hF.2.1 hc (hT.1 N (fun j => va_rf (f j))) (by rw [vp_cell_q, arrV_size] <;> rfl) rfl rfl hd (kk D p e s m args below meth c H locs ls hF hK hE hz' hR hS hA hL)
theorem qV_iast {a N : Nat} {f : Nat → Int} {z x : Int} (hd : decode M.2.1 pc = .ok (.iastore, 1)) (ha : h a = some (iA 0 N f)) (hz : 0 ≤ z ∧ z < N ∧ z < 2147483648) (kk : qV l M R EX G h0 sz0 k n (hU h a (iA 0 N (va_up f z.toNat x))) sz (pc + 1) L st) : qV l M R EX G h0 sz0 k n h sz pc L (vI x :: vI z :: .ref a :: st) := by
  intro D p e s m args below meth c H locs ls hF hK hE hz' hR hS hA hL
  obtain ⟨cA, hT, hc⟩ := hR.2 a _ ha
  have hin := iR_in hz
  refine W.iast hF.1 hF.2.1 hc (hT.1 N (fun j => .int (Int32.ofInt (f j)))) (fun q => by cases q) (by show ¬ (_ ∨ (arrV _ _ _).slots.size ≤ _); rw [arrV_size]; exact hin) rfl rfl hd fun H1 e1 z1 oq => ?_
  refine kk D p e s m args below meth c H1 _ ls hF hK hE hz' (hR.set z1 oq ⟨cA, hT, ?_⟩) (hS.put z1 oq (hA a (by rw [ha]; exact fun z => by cases z))) (qA_set hA ha) hL
  rw [e1, vp_cell_i, vp_cell_i, arrV_store, iR_cl ⟨hz.1, hz.2.2⟩]
  congr 2
  funext q
  by_cases hq : q = z.toNat
  · subst hq
    simp [updV, va_up]
  · simp [updV, va_up, hq]
theorem qV_zast {a N : Nat} {f : Nat → Int} {z x : Int} (hx : x = 0 ∨ x = 1) (hd : decode M.2.1 pc = .ok (.bastore, 1)) (ha : h a = some (iA 1 N f)) (hz : 0 ≤ z ∧ z < N ∧ z < 2147483648) (kk : qV l M R EX G h0 sz0 k n (hU h a (iA 1 N (va_up f z.toNat x))) sz (pc + 1) L st) : qV l M R EX G h0 sz0 k n h sz pc L (vI x :: vI z :: .ref a :: st) := by
  intro D p e s m args below meth c H locs ls hF hK hE hz' hR hS hA hL
  obtain ⟨cA, hT, hc⟩ := hR.2 a _ ha
  have hin := iR_in hz
  have hnx : narrow .boolean (.int (Int32.ofInt x)) = .int (Int32.ofInt x) := by rcases hx with rfl | rfl <;> rfl
  refine W.zast hF.1 hF.2.1 hc (hT.1 N (fun j => .int (Int32.ofInt (f j)))) (fun q => by cases q) (by show ¬ (_ ∨ (arrV _ _ _).slots.size ≤ _); rw [arrV_size]; exact hin) rfl rfl hd fun H1 e1 z1 oq => ?_
  refine kk D p e s m args below meth c H1 _ ls hF hK hE hz' (hR.set z1 oq ⟨cA, hT, ?_⟩) (hS.put z1 oq (hA a (by rw [ha]; exact fun z => by cases z))) (qA_set hA ha) hL
  rw [e1, hnx, vp_cell_i, vp_cell_i, arrV_store, iR_cl ⟨hz.1, hz.2.2⟩]
  congr 2
  funext q
  by_cases hq : q = z.toNat
  · subst hq
    simp [updV, va_up]
  · simp [updV, va_up, hq]
theorem qV_aast {a N kd v ci : Nat} {f : Nat → Option Nat} {z : Int} {C : String} {T : u_T} {N' : Nat} {ty : Nat → FieldType} {fs : List Value} (hk : qK ci C T N' ty) (hkd : aty kd = .object C) (hd : decode M.2.1 pc = .ok (.aastore, 1)) (ha : h a = some (rA kd N f)) (hv : h v = some (oB ci fs)) (hz : 0 ≤ z ∧ z < N ∧ z < 2147483648) (kk : qV l M R EX G h0 sz0 k n (hU h a (rA kd N (va_up f z.toNat (some v)))) sz (pc + 1) L st) : qV l M R EX G h0 sz0 k n h sz pc L (.ref v :: vI z :: .ref a :: st) := by
  intro D p e s m args below meth c H locs ls hF hK hE hz' hR hS hA hL
  obtain ⟨cA, hT, hc⟩ := hR.2 a _ ha
  have hin := iR_in hz
  have hlt : (Int32.ofInt z).toNatClampNeg < N := Nat.not_le.mp fun q => hin (Or.inr q)
  have h0' : ¬ Int32.ofInt z < 0 := fun q => hin (Or.inl q)
  obtain ⟨r', hr', cellV, g1, g2, g3, -⟩ := hR.2 v _ hv
  have hcls := (hK.1.1 ci _ hk.1).2
  have hT2 : va_RA s cA (.object C) := by rw [← hkd]; exact hT.2
  obtain ⟨kA, comp, k1, k2, k3, -⟩ := hT2
  have hcomp : comp = D.1 ci := Option.some.inj (k3.symm.trans hcls.1)
  subst hcomp
  obtain ⟨kC, hkC, -⟩ := hcls.2
  refine W.aast hF.1 hF.2.1 hc (fun q h => by cases h) (fun h => by cases h) k1 k2 rfl hkC ⟨h0', by show _ < (arrV _ _ _).slots.size; rw [arrV_size]; exact hlt⟩ g1 (fun q h => by rw [g3] at h; cases h) (by rw [g2]; exact hkC) (by rw [g2]; exact va_assign hcls) rfl rfl hd fun H1 e1 z1 oq => ?_
  refine kk D p e s m args below meth c H1 _ ls hF hK hE hz' (hR.set z1 oq ⟨cA, hT, ?_⟩) (hS.put z1 oq (hA a (by rw [ha]; exact fun z => by cases z))) (qA_set hA ha) hL
  rw [e1, vp_cell_q, vp_cell_q, arrV_store, iR_cl ⟨hz.1, hz.2.2⟩]
  congr 2
  funext q
  by_cases hq : q = z.toNat
  · subst hq
    simp [updV, va_up, va_rf]
  · simp [updV, va_up, hq]
theorem qS_push {h0 : qH} {sz0 : Nat} {s : State} {H H1 : Heap} {locs : List Loc} (hS : va_S (qA h0 sz0) s.heap H locs) (z1 : H1.size = H.size + 1) (o1 : ∀ q, q < H.size → H1[q]? = H[q]?) : va_S (qA h0 sz0) s.heap H1 locs :=
  ⟨Nat.le_trans hS.1 (by omega), fun x h1 h2 => (o1 x (Nat.lt_of_lt_of_le h1 hS.1)).trans (hS.2.1 x h1 h2), hS.2.2⟩
theorem qA_push {h0 h : qH} {sz0 sz : Nat} {e : qE} (hA : ∀ q, h q ≠ none → qA h0 sz0 q) (hle : sz0 ≤ sz) : ∀ q, hU h sz e q ≠ none → qA h0 sz0 q := fun q hq => by
  by_cases hqa : q = sz
  · subst hqa
    exact Or.inr hle
  · rw [hU_ne hqa] at hq
    exact hA q hq
theorem qV_new {ci N idx : Nat} {C : String} {T : u_T} {ty : Nat → FieldType} (fs : List Value) (hk : qK ci C T N ty) (hlk : Cond.classLink M.1.cls idx C ∈ gt) (hins : Cond.instantiable C N ∈ gt) (hini : Cond.initialized C ∈ gt) (hfs : ∀ j, j < N → defaultValue (ty j) = vp_V fs j) (hd : decode M.2.1 pc = .ok (.new idx, 3)) (hkc : k + 1 ≤ R.cells) (hkn : n + N ≤ R.slots) (kk : qV l M R EX G h0 sz0 (k + 1) (n + N) (hU h sz (oB ci fs)) (sz + 1) (pc + 3) L (.ref sz :: st)) : qV l M R EX G h0 sz0 k n h sz pc L st := by
  intro D p e s m args below meth c H locs ls hF hK hE hz hR hS hA hL
  have hts := hF.2.2.2.2.1
  have hKn := hK.1.1 ci _ hk.1
  obtain ⟨rfl, -⟩ := id hR
  refine W.newcK hF.1 hF.2.1 hF.2.2.2.1 (hts _ hlk) (hts _ hins) (hts _ hini) rfl hd hkc hkn hKn.2.1 rfl fun H1 kC hkC e1 z1 o1 => ?_
  exact kk D p e s m args below meth c H1 locs ls hF hK hE hz (hR.push z1 o1 ⟨_, hk.1, (u_born ty hts hk.2.1 hKn hkC e1 hk.2.2.1).to hfs⟩) (qS_push hS z1 o1) (qA_push hA (by have := hS.1; omega)) hL
theorem qV_newi {kd : Nat} {at0 : ArrayType} {z : Int} (hty : newarray.typeOf at0 = aty kd) (hdf : defaultValue (aty kd) = .int 0) (hwa : Cond.arrayClass (newarray.typeOf at0) ∈ gt) (hra : ∀ (s : State) (cA : ClassId), s.vm.findClass ("[" ++ (aty kd).toString) = some cA → va_RA s cA (aty kd)) (hd : decode M.2.1 pc = .ok (.newarray at0, 2)) (hz : 0 ≤ z ∧ z ≤ 100000) (hb : componentBytes (aty kd) ≤ 8) (hkc : k + 1 ≤ R.cells) (hkn : n + z.toNat ≤ R.slots) (kk : qV l M R EX G h0 sz0 (k + 1) (n + z.toNat) (hU h sz (iA kd z.toNat (fun _ => 0))) (sz + 1) (pc + 2) L (.ref sz :: st)) : qV l M R EX G h0 sz0 k n h sz pc L (vI z :: st) := by
  intro D p e s m args below meth c H locs ls hF hK hE hz' hR hS hA hL
  have hts := hF.2.2.2.2.1
  obtain ⟨rfl, -⟩ := id hR
  have hn0 : ¬ Int32.ofInt z < 0 := fun q => by have := (iR_lt0 ⟨by omega, by omega⟩).mp q; omega
  refine va_newaK (g := F0 m pc ls (vI z :: st)) hF.1 hF.2.1 (hts _ hwa) rfl hd rfl hn0 (iR_cl ⟨hz.1, by omega⟩) (by
    rw [hty]
    calc z.toNat * componentBytes (aty kd) ≤ 100000 * 8 := Nat.mul_le_mul (by omega) hb
      _ ≤ 536870912 := by decide) hkc hkn rfl fun H1 cA e1 z1 o1 hAr hNm => ?_
  rw [hty] at e1 hAr hNm
  exact kk D p e s m args below meth c H1 locs ls hF hK hE hz' (hR.push z1 o1 ⟨cA, ⟨hAr, hra s cA hNm⟩, by rw [e1, hdf]; rfl⟩) (qS_push hS z1 o1) (qA_push hA (by have := hS.1; omega)) hL
theorem qV_newr {kd idx : Nat} {C : String} {z : Int} (hty : aty kd = .object C) (hlk : Cond.classLink M.1.cls idx C ∈ gt) (hover : ∀ (D : va_G) (s : State), qKK D s → va_AO C s) (hd : decode M.2.1 pc = .ok (.anewarray idx, 3)) (hz : 0 ≤ z ∧ z ≤ 100000) (hkc : k + 1 ≤ R.cells) (hkn : n + z.toNat ≤ R.slots) (kk : qV l M R EX G h0 sz0 (k + 1) (n + z.toNat) (hU h sz (rA kd z.toNat (fun _ => none))) (sz + 1) (pc + 3) L (.ref sz :: st)) : qV l M R EX G h0 sz0 k n h sz pc L (vI z :: st) := by
  intro D p e s m args below meth c H locs ls hF hK hE hz' hR hS hA hL
  have hts := hF.2.2.2.2.1
  obtain ⟨rfl, -⟩ := id hR
  have hn0 : ¬ Int32.ofInt z < 0 := fun q => by have := (iR_lt0 ⟨by omega, by omega⟩).mp q; omega
  have hcl := iR_cl (z := z) ⟨hz.1, by omega⟩
  refine W.anew (g := F0 m pc ls (vI z :: st)) hF.1 hF.2.1 hF.2.2.2.1 (hts _ hlk) (va_AO.use (hover D s hK)) rfl hd rfl hn0 (by rw [hcl]; omega) hkc (by rw [hcl]; exact hkn) fun cA kA comp f1 f2 f3 f4 => ?_
  rw [hcl]
  generalize hH1 : H.push ({ cls := cA, slots := Array.replicate z.toNat .null, vm := .none } : Cell) = H1
  have z1 : H1.size = H.size + 1 := by rw [← hH1, Array.size_push]
  have e1 : H1[H.size]? = some (arrV cA z.toNat (fun _ => .null)) := by rw [← hH1, Array.getElem?_push_size, ← arrV_new]
  have o1 : ∀ q : Nat, q < H.size → H1[q]? = H[q]? := fun q hq => by rw [← hH1, Array.getElem?_push, if_neg (Nat.ne_of_lt hq)]
  have hAr : ArrOfT s cA (.object C) := fun N z => ⟨(fun k h => by cases h), kA, f2, comp, f3⟩
  exact kk D p e s m args below meth c H1 locs ls hF hK hE hz' (hR.push z1 o1 ⟨cA, by
    show ArrOfT s cA (aty kd) ∧ va_RA s cA (aty kd)
    rw [hty]
    exact ⟨hAr, kA, comp, f2, f3, f4, f1⟩, by rw [e1]; rfl⟩) (qS_push hS z1 o1) (qA_push hA (by have := hS.1; omega)) hL
theorem qV_objinit {idx a : Nat} (hlk : Cond.methodLink M.1.cls idx objectInit ∈ gt) (hd : decode M.2.1 pc = .ok (.invokespecial idx, 3)) (hfr : 1 ≤ R.frames) (hlo : (st.map fun v => v.category).sum + 12 ≤ R.locals) (kk : qV l M R EX G h0 sz0 k n h sz (pc + 3) L st) : qV l M R EX G h0 sz0 k n h sz pc L (.ref a :: st) := by
  intro D p e s m args below meth c H locs ls hF hK hE hz hR hS hA hL
  have hts := hF.2.2.2.2.1
  exact W.objInit hF.1 hF.2.1 hF.2.2.2.1 (hts _ hlk) (hts _ wi_obj) (hts _ wc_obj) rfl (hL.1.trans hF.2.2.1.symm) rfl hd hfr (by show 2 * 0 + _ + 12 ≤ _; omega) (kk D p e s m args below meth c H locs ls hF hK hE hz hR hS hA hL)
/-! calls -/
theorem qV.call {mc' ms' : Nat} {av rest : List Value} {Q' : Option Value → qH → Nat → Prop}
    (hr : ∀ (D : va_G) (p : Program) (e : Env) (s : State) (m : MethodId) (args : Array Value) (below : List Frame) (meth : Method) (c : Code) (H : Heap) (locs : List Loc) (ls : Array Slot), qF M p s m args meth c → qKK D s → qR D s H h sz → ls.size = M.2.2.1 → va_Run p l e R s m args below meth c H locs k n mc' ms' (F0 m pc ls st) rest (qQ D h sz Q' av.toArray) (qA h sz))
    (kk : ∀ v h' sz', Q' v h' sz' → qV l M R EX G h0 sz0 (k + mc') (n + ms') h' sz' (pc + 3) L (v.toList ++ rest)) : qV l M R EX G h0 sz0 k n h sz pc L st := by
  intro D p e s m args below meth c H locs ls hF hK hE hz hR hS hA hL T hT X
  obtain ⟨v, st₀, t, T', Lc, e0, X', hLc, e1, e2, ⟨v', h', sz', hv, hQ, hR', hdom, hle, hfr⟩, stp⟩ := hr D p e s m args below meth c H locs ls hF hK hR hL.1 T hT X
  cases hv
  have hvm : s.vm.Alike t.vm := by rw [← e2]; exact X'.warmed.alike
  have hR1 : qR D s T'.heap h' sz' := by rw [e1]; exact hR'.moved hvm.symm
  have hle0 : sz0 ≤ sz := by have := hS.1; have := hR.1; omega
  have hfree : ∀ q, qA h sz q → qA h0 sz0 q := fun q hq => hq.elim (hA q) (fun z => Or.inr (by omega))
  have hS1 : va_S (qA h0 sz0) s.heap T'.heap (locs ++ Lc) := by
    refine ⟨by rw [hz, hR1.1]; omega, fun q h1 h2 => ?_, fun q hq => ?_⟩
    · have hq0 : h q = none := by
        cases hh : h q with
        | none => rfl
        | some x => exact absurd (hA q (by rw [hh]; exact fun z => by cases z)) h2
      rw [e1, hfr q (by omega) hq0, e0]
      exact hS.2.1 q h1 h2
    · rcases List.mem_append.mp hq with hq | hq
      · exact hS.2.2 q hq
      · exact hfree _ (hLc q hq)
  obtain ⟨t2, a1, b1⟩ := kk v h' sz' hQ D p e s m args below meth c T'.heap (locs ++ Lc) ls hF hK hE hz hR1 hS1 (fun q hq => hfree q (hdom q hq)) hL T' rfl X'
  exact ⟨t2, stp t2 a1, b1⟩
theorem qBlind (D : va_G) (av : List Value) (h : qH) (sz : Nat) : FrameBlind (va_Pc av (fun U => qKK D U ∧ qR D U U.heap h sz)) := fun a U g mk hq => ⟨hq.1, hq.2.1.call, qR.moved (u := U) (U := U.calling g mk a) (Vm.Alike.refl U.vm) hq.2.2⟩
def qNh (M : MI) (a : Nat) : Prop := Cond.initialized M.1.cls ∈ gt ∧ Cond.code M.1 M.2.1 M.2.2.1 M.2.2.2.1 ∈ gt ∧ (M.1.cls ≠ "java/lang/invoke/MethodHandle" ∧ M.1.cls ≠ "java/lang/invoke/VarHandle") ∧ (parseMethodDescriptor M.1.desc).map (fun d => d.parameters.length) = some a
def qNv (M : MI) (a : Nat) : Prop := qNh M a ∧ Cond.instanceMethod M.1 ∈ gt ∧ Cond.selects M.1.cls M.1 M.1 ∈ gt
def qNs (M : MI) (a : Nat) : Prop := qNh M a ∧ Cond.static M.1 ∈ gt
def qNi (M : MI) (a : Nat) : Prop := qNh M a ∧ M.1.name = "<init>" ∧ M.2.2.2.1 = none ∧ Cond.instanceMethod M.1 ∈ gt
theorem qpay {M' : MI} {s : State} {args : Array Value} (hts : ∀ w ∈ gt, w.before args s = true) (hc : Cond.code M'.1 M'.2.1 M'.2.2.1 M'.2.2.2.1 ∈ gt) : ∀ w ∈ (Cond.code M'.1 M'.2.1 M'.2.2.1 M'.2.2.2.1 :: gt), ∀ (a' : Array Value) (U : State), s.WarmedH U.vm → w.before a' U = true :=
  pay_in hts (fun w hw => (List.mem_cons.mp hw).elim (fun e => by rw [e]; exact gt_good _ hc) (fun h => gt_good w h))
theorem qlen {M' : MI} {a : Nat} (hN : qNh M' a) : ∀ sig, parseMethodDescriptor M'.1.desc = some sig → a = sig.parameters.length := fun sig hs => by
  have h2 := hN.2.2.2
  rw [hs] at h2
  exact (Option.some.inj h2).symm
theorem qCB {M' : MI} {p : Program} {s : State} {m : MethodId} {args : Array Value} {meth : Method} {c : Code} {idx mc' ms' a : Nat} (hF : qF M p s m args meth c) (hN : qNh M' a) (hlk : Cond.methodLink M.1.cls idx M'.1 ∈ gt) (hrm : M'.2.2.2.2.1 + 1 ≤ R.frames ∧ 8 + (M'.2.2.1 + 11) + M'.2.2.2.2.2 ≤ R.locals) : CallB R s args M.1.cls idx M'.1 M'.2.1 M'.2.2.1 M'.2.2.2.1 (Cond.code M'.1 M'.2.1 M'.2.2.1 M'.2.2.2.1 :: gt) (mR M' mc' ms') mc' ms' a :=
  have hts := hF.2.2.2.2.1
  ⟨rfl, rfl, hrm.1, hrm.2, qpay hts hN.2.1, List.mem_cons_self, hts _ hN.2.1, hts _ hN.1, hN.2.2.1, qlen hN, hts _ hlk⟩
theorem qV_callV {M' : MI} {mc' ms' idx b ci N : Nat} {As rest fs : List Value} {T : u_T} {ty : Nat → FieldType} {Q' : Option Value → qH → Nat → Prop} (hc : qC l M' mc' ms' (.ref b :: As) h sz Q') (hN : qNv M' As.length) (hk : qK ci M'.1.cls T N ty) (hlk : Cond.methodLink M.1.cls idx M'.1 ∈ gt) (hd : decode M.2.1 pc = .ok (.invokevirtual idx, 3)) (ha : h b = some (oB ci fs)) (hrm : M'.2.2.2.2.1 + 1 ≤ R.frames ∧ 8 + (M'.2.2.1 + 11) + M'.2.2.2.2.2 ≤ R.locals) (hcs : k + mc' ≤ R.cells ∧ n + ms' ≤ R.slots) (hst : st = As.reverse ++ .ref b :: rest) (hcat : (rest.map fun v => v.category).sum ≤ 8)
    (kk : ∀ v h' sz', Q' v h' sz' → qV l M R EX G h0 sz0 (k + mc') (n + ms') h' sz' (pc + 3) L (v.toList ++ rest)) : qV l M R EX G h0 sz0 k n h sz pc L st := by
  refine qV.call (av := .ref b :: As) (fun D p e s m args below meth c H locs ls hF hK hR hsz => ?_) kk
  have hts := hF.2.2.2.2.1
  exact va_runV (As := As) (rest := rest) ⟨hF.1, hF.2.1, hF.2.2.1, hF.2.2.2.1, hts⟩ (hc D) ⟨qCB hF hN.1 hlk hrm, hts _ hN.2.1, hts _ hN.2.2⟩ ⟨qBlind D _ h sz, va_recv hK.1 (hR.one ha) hk.1 (q0 := 0) rfl, fun U hU hW => ⟨rfl, hK.warm hW, by rw [hU]; exact hR.moved hW.alike⟩⟩ rfl rfl hsz hst (lv_room hcat) hd hcs
theorem qV_callS {M' : MI} {mc' ms' idx : Nat} {As rest : List Value} {Q' : Option Value → qH → Nat → Prop} (hc : qC l M' mc' ms' As h sz Q') (hN : qNs M' As.length) (hlk : Cond.methodLink M.1.cls idx M'.1 ∈ gt) (hd : decode M.2.1 pc = .ok (.invokestatic idx, 3)) (hrm : M'.2.2.2.2.1 + 1 ≤ R.frames ∧ 8 + (M'.2.2.1 + 11) + M'.2.2.2.2.2 ≤ R.locals) (hcs : k + mc' ≤ R.cells ∧ n + ms' ≤ R.slots) (hst : st = As.reverse ++ rest) (hcat : (rest.map fun v => v.category).sum ≤ 8)
    (kk : ∀ v h' sz', Q' v h' sz' → qV l M R EX G h0 sz0 (k + mc') (n + ms') h' sz' (pc + 3) L (v.toList ++ rest)) : qV l M R EX G h0 sz0 k n h sz pc L st := by
  refine qV.call (av := As) (fun D p e s m args below meth c H locs ls hF hK hR hsz => ?_) kk
  have hts := hF.2.2.2.2.1
  exact va_runS (As := As) (rest := rest) ⟨hF.1, hF.2.1, hF.2.2.1, hF.2.2.2.1, hts⟩ (hc D) ⟨qCB hF hN.1 hlk hrm, hts _ hN.2⟩ ⟨qBlind D _ h sz, fun U hU hW => ⟨rfl, hK.warm hW, by rw [hU]; exact hR.moved hW.alike⟩⟩ rfl rfl hsz hst (lv_room hcat) hd hcs
theorem qV_callI {M' : MI} {mc' ms' idx b : Nat} {As rest : List Value} {Q' : Option Value → qH → Nat → Prop} (hc : qC l M' mc' ms' (.ref b :: As) h sz Q') (hN : qNi M' As.length) (hlk : Cond.methodLink M.1.cls idx M'.1 ∈ gt) (hd : decode M.2.1 pc = .ok (.invokespecial idx, 3)) (hrm : M'.2.2.2.2.1 + 1 ≤ R.frames ∧ 8 + (M'.2.2.1 + 11) + M'.2.2.2.2.2 ≤ R.locals) (hcs : k + mc' ≤ R.cells ∧ n + ms' ≤ R.slots) (hst : st = As.reverse ++ .ref b :: rest) (hcat : (rest.map fun v => v.category).sum ≤ 8)
    (kk : ∀ v h' sz', Q' v h' sz' → qV l M R EX G h0 sz0 (k + mc') (n + ms') h' sz' (pc + 3) L (v.toList ++ rest)) : qV l M R EX G h0 sz0 k n h sz pc L st := by
  refine qV.call (av := .ref b :: As) (fun D p e s m args below meth c H locs ls hF hK hR hsz => ?_) kk
  have hts := hF.2.2.2.2.1
  have hcb := qCB (R := R) (mc' := mc') (ms' := ms') hF hN.1 hlk hrm
  have hM := hc D
  rw [hN.2.2.1] at hcb hM
  exact va_runI (As := As) (rest := rest) ⟨hF.1, hF.2.1, hF.2.2.1, hF.2.2.2.1, hts⟩ hM ⟨hcb, hN.2.1, hts _ hN.2.2.2⟩ ⟨qBlind D _ h sz, fun U hU hW => ⟨rfl, hK.warm hW, by rw [hU]; exact hR.moved hW.alike⟩⟩ rfl rfl hsz hst (lv_room hcat) hd hcs
theorem qCN {M' : MI} {p : Program} {s : State} {m : MethodId} {args : Array Value} {meth : Method} {c : Code} {D : va_G} {idx mc' ms' a : Nat} {host : String} (hF : qF M p s m args meth c) (hK : qKK D s) (hN : qNh M' a) (hlk : Cond.methodLinkNest M.1.cls idx M'.1 host ∈ nst) (hrm : M'.2.2.2.2.1 + 1 ≤ R.frames ∧ 8 + (M'.2.2.1 + 11) + M'.2.2.2.2.2 ≤ R.locals) : va_CN R s args M.1.cls idx M'.1 host M'.2.1 M'.2.2.1 M'.2.2.2.1 (Cond.code M'.1 M'.2.1 M'.2.2.1 M'.2.2.2.1 :: gt) (mR M' mc' ms') mc' ms' a :=
  have hts := hF.2.2.2.2.1
  ⟨⟨rfl, rfl, hrm.1, hrm.2, qpay hts hN.2.1, List.mem_cons_self⟩, hts _ hN.2.1, hts _ hN.1, hN.2.2.1, qlen hN, va_Nw.use rfl (hK.2.1 _ hlk)⟩
theorem qV_callSN {M' : MI} {mc' ms' idx : Nat} {host : String} {As rest : List Value} {Q' : Option Value → qH → Nat → Prop} (hc : qC l M' mc' ms' As h sz Q') (hN : qNs M' As.length) (hlk : Cond.methodLinkNest M.1.cls idx M'.1 host ∈ nst) (hd : decode M.2.1 pc = .ok (.invokestatic idx, 3)) (hrm : M'.2.2.2.2.1 + 1 ≤ R.frames ∧ 8 + (M'.2.2.1 + 11) + M'.2.2.2.2.2 ≤ R.locals) (hcs : k + mc' ≤ R.cells ∧ n + ms' ≤ R.slots) (hst : st = As.reverse ++ rest) (hcat : (rest.map fun v => v.category).sum ≤ 8)
    (kk : ∀ v h' sz', Q' v h' sz' → qV l M R EX G h0 sz0 (k + mc') (n + ms') h' sz' (pc + 3) L (v.toList ++ rest)) : qV l M R EX G h0 sz0 k n h sz pc L st := by
  refine qV.call (av := As) (fun D p e s m args below meth c H locs ls hF hK hR hsz => ?_) kk
  have hts := hF.2.2.2.2.1
  exact va_runSN (As := As) (rest := rest) ⟨hF.1, hF.2.1, hF.2.2.1, hF.2.2.2.1, hts⟩ (hc D) ⟨qCN hF hK hN.1 hlk hrm, hts _ hN.2, trivial⟩ ⟨qBlind D _ h sz, fun U hU hW => ⟨rfl, hK.warm hW, by rw [hU]; exact hR.moved hW.alike⟩⟩ rfl rfl hsz hst (lv_room hcat) hd hcs
theorem qV_callIN {M' : MI} {mc' ms' idx b : Nat} {host : String} {As rest : List Value} {Q' : Option Value → qH → Nat → Prop} (hc : qC l M' mc' ms' (.ref b :: As) h sz Q') (hN : qNi M' As.length) (hlk : Cond.methodLinkNest M.1.cls idx M'.1 host ∈ nst) (hd : decode M.2.1 pc = .ok (.invokespecial idx, 3)) (hrm : M'.2.2.2.2.1 + 1 ≤ R.frames ∧ 8 + (M'.2.2.1 + 11) + M'.2.2.2.2.2 ≤ R.locals) (hcs : k + mc' ≤ R.cells ∧ n + ms' ≤ R.slots) (hst : st = As.reverse ++ .ref b :: rest) (hcat : (rest.map fun v => v.category).sum ≤ 8)
    (kk : ∀ v h' sz', Q' v h' sz' → qV l M R EX G h0 sz0 (k + mc') (n + ms') h' sz' (pc + 3) L (v.toList ++ rest)) : qV l M R EX G h0 sz0 k n h sz pc L st := by
  refine qV.call (av := .ref b :: As) (fun D p e s m args below meth c H locs ls hF hK hR hsz => ?_) kk
  have hts := hF.2.2.2.2.1
  have hcb := qCN (R := R) (mc' := mc') (ms' := ms') hF hK hN.1 hlk hrm
  have hM := hc D
  rw [hN.2.2.1] at hcb hM
  exact va_runIN (As := As) (rest := rest) ⟨hF.1, hF.2.1, hF.2.2.1, hF.2.2.2.1, hts⟩ hM ⟨hcb, hN.2.1, hts _ hN.2.2.2⟩ ⟨qBlind D _ h sz, fun U hU hW => ⟨rfl, hK.warm hW, by rw [hU]; exact hR.moved hW.alike⟩⟩ rfl rfl hsz hst (lv_room hcat) hd hcs
theorem qV_fix {k' n' pc' : Nat} {st' : List Value} (kk : qV l M R EX G h0 sz0 k' n' h sz pc' L st') (e1 : k = k') (e2 : n = n') (e3 : pc = pc') (e4 : st = st') : qV l M R EX G h0 sz0 k n h sz pc L st := by subst e1; subst e2; subst e3; subst e4; exact kk
theorem qV_heap {h' : qH} {sz' : Nat} (kk : qV l M R EX G h0 sz0 k n h' sz' pc L st) (e1 : h = h') (e2 : sz = sz') : qV l M R EX G h0 sz0 k n h sz pc L st := by subst e1; subst e2; exact kk
/-! the end of a method -/
theorem qEnd {D : va_G} {s t : State} {H : Heap} {locs : List Loc} {args : Array Value} {Q : Option Value → qH → Nat → Prop} {v : Option Value} (hz : s.heap.size = sz0) (hR : qR D s H h sz) (hS : va_S (qA h0 sz0) s.heap H locs) (hA : ∀ q, h q ≠ none → qA h0 sz0 q) (hq : Q v h sz) (ht : t.heap = H) (hW : s.WarmedH t.vm) : qQ D h0 sz0 Q args s (.returned v) t :=
  ⟨v, h, sz, rfl, hq, by rw [ht]; exact hR.moved hW.alike, hA, by have := hS.1; have := hR.1; omega, fun q h1 h2 => by
    rw [ht]
    exact hS.2.1 q (by omega) (fun z => z.elim (fun y => y h2) (fun y => by omega))⟩
variable {mc ms : Nat} {Q : Option Value → qH → Nat → Prop}
theorem qV_iret {z : Int} (hd : decode M.2.1 pc = .ok (.ireturn, 1)) (hr : M.2.2.2.1 = some .int) (hk : k ≤ mc) (hn : n ≤ ms) (hq : Q (some (vI z)) h sz) : qVM l M mc ms h0 sz0 Q k n h sz pc L [vI z] := by
  intro D p e s m args below meth c H locs ls hF hK hE hz hR hS hA hL
  refine W.widen hk hn ?_
  exact W.iret hF.1 hF.2.1 (hF.2.2.2.2.2.1.trans hr) (fun t ht hW => qEnd hz hR hS hA hq ht hW) hS.2.2 hd hF.2.2.2.2.2.2.1
theorem qV_zret {z : Int} (hd : decode M.2.1 pc = .ok (.ireturn, 1)) (hr : M.2.2.2.1 = some .boolean) (hz1 : z = 0 ∨ z = 1) (hk : k ≤ mc) (hn : n ≤ ms) (hq : Q (some (vI z)) h sz) : qVM l M mc ms h0 sz0 Q k n h sz pc L [vI z] := by
  intro D p e s m args below meth c H locs ls hF hK hE hz hR hS hA hL
  refine W.widen hk hn ?_
  exact W.zret hF.1 hF.2.1 (hF.2.2.2.2.2.1.trans hr) (by rcases hz1 with rfl | rfl <;> rfl) (fun t ht hW => qEnd hz hR hS hA hq ht hW) hS.2.2 hd hF.2.2.2.2.2.2.1
theorem qV_lret {z : Int} (hd : decode M.2.1 pc = .ok (.lreturn, 1)) (hr : M.2.2.2.1 = some .long) (hk : k ≤ mc) (hn : n ≤ ms) (hq : Q (some (vL z)) h sz) : qVM l M mc ms h0 sz0 Q k n h sz pc L [vL z] := by
  intro D p e s m args below meth c H locs ls hF hK hE hz hR hS hA hL
  refine W.widen hk hn ?_
  exact W.lret hF.1 hF.2.1 (hF.2.2.2.2.2.1.trans hr) (fun t ht hW => qEnd hz hR hS hA hq ht hW) hS.2.2 hd hF.2.2.2.2.2.2.1
theorem qV_vret (hd : decode M.2.1 pc = .ok (.return_, 1)) (hr : M.2.2.2.1 = none) (hk : k ≤ mc) (hn : n ≤ ms) (hq : Q none h sz) : qVM l M mc ms h0 sz0 Q k n h sz pc L [] := by
  intro D p e s m args below meth c H locs ls hF hK hE hz hR hS hA hL
  refine W.widen hk hn ?_
  exact W.vret hF.1 hF.2.1 (hF.2.2.2.2.2.1.trans hr) (fun t ht hW => qEnd hz hR hS hA hq ht hW) hS.2.2 hd hF.2.2.2.2.2.2.1
theorem qV_aret {v : Value} {rt : FieldType} (hd : decode M.2.1 pc = .ok (.areturn, 1)) (hr : M.2.2.2.1 = some rt) (hrt : (∃ n, rt = .object n) ∨ ∃ t, rt = .array t) (hv : v = .null ∨ ∃ a, v = .ref a) (hk : k ≤ mc) (hn : n ≤ ms) (hq : Q (some v) h sz) : qVM l M mc ms h0 sz0 Q k n h sz pc L [v] := by
  intro D p e s m args below meth c H locs ls hF hK hE hz hR hS hA hL
  refine W.widen hk hn ?_
  exact W.aret hF.1 hF.2.1 (hF.2.2.2.2.2.1.trans hr) hrt hv (fun t ht hW => qEnd hz hR hS hA hq ht hW) hS.2.2 hd hF.2.2.2.2.2.2.1
end QW
