/-! ===== the reference: what a call changes ===== -/
def RH (h : qH) (r : Nat) (kn ty st : Int) (s pa im kp ta pl tk tp td : Nat → Int) : Prop := h r = some (rob r kn ty st) ∧ h (r + 1) = some (iA 0 541 s) ∧ h (r + 2) = some (iA 0 4328 pa) ∧ h (r + 3) = some (iA 0 1082 im) ∧ h (r + 4) = some (iA 1 2 kp) ∧ h (r + 5) = some (iA 0 24 ta) ∧ h (r + 6) = some (iA 0 4 pl) ∧ h (r + 7) = some (iA 0 4 tk) ∧ h (r + 8) = some (iA 0 96 tp) ∧ h (r + 9) = some (iA 0 4 td)
theorem RH.cast {h : qH} {r : Nat} {kn ty st kn' ty' st' : Int} {s pa im kp ta pl tk tp td : Nat → Int} (a : RH h r kn ty st s pa im kp ta pl tk tp td) (e1 : kn' = kn) (e2 : ty' = ty) (e3 : st' = st) : RH h r kn' ty' st' s pa im kp ta pl tk tp td := by subst e1; subst e2; subst e3; exact a
theorem RH.fr {h h' : qH} {r : Nat} {kn ty st : Int} {s pa im kp ta pl tk tp td : Nat → Int} (a : RH h r kn ty st s pa im kp ta pl tk tp td) (b : ∀ q, r ≤ q → q < r + 10 → h' q = h q) : RH h' r kn ty st s pa im kp ta pl tk tp td := by
  obtain ⟨a0, a1, a2, a3, a4, a5, a6, a7, a8, a9⟩ := a
  exact ⟨(b _ (by omega) (by omega)).trans a0, (b _ (by omega) (by omega)).trans a1, (b _ (by omega) (by omega)).trans a2, (b _ (by omega) (by omega)).trans a3, (b _ (by omega) (by omega)).trans a4, (b _ (by omega) (by omega)).trans a5, (b _ (by omega) (by omega)).trans a6, (b _ (by omega) (by omega)).trans a7, (b _ (by omega) (by omega)).trans a8, (b _ (by omega) (by omega)).trans a9⟩
theorem SP.congr {s s' : Nat → Int} {P : PG} (a : SP s P) (hw : wf 216 P) (e : ∀ j, j < 541 → s' j = s j) : SP s' P := by
  have h1 := hw.1
  have h2 := hw.c_le
  obtain ⟨p0, p1, p2, pT, pC, pM⟩ := a
  exact ⟨(e _ (by omega)).trans p0, (e _ (by omega)).trans p1, (e _ (by omega)).trans p2, fun j hj => (e _ (by omega)).trans (pT j hj), fun j hj => (e _ (by omega)).trans (pC j hj), fun j hj => (e _ (by omega)).trans (pM j hj)⟩
def RPast (pa : Nat → Int) (Hs : Nat → PG) (y : Nat) : Prop := ∀ k, k < y → SP (fun j => pa (541 * k + j)) (Hs (y - 1 - k))
def RImg (im kp : Nat → Int) (I : Nat → Option PG) : Prop := ∀ i, i < 2 → (I i = none → kp i = 0) ∧ ∀ Q, I i = some Q → kp i = 1 ∧ SP (fun j => im (541 * i + j)) Q
def rowE (pl tk tp td : Nat → Int) (i : Nat) (E : ED) : Prop := pl i = E.1 ∧ tk i = E.2.1 ∧ td i = E.2.2.1 ∧ ∀ j, j < E.2.2.1 → tp (24 * i + j) = E.2.2.2 j
def RStg (pl tk tp td : Nat → Int) (S : Nat → ED) (z : Nat) : Prop := (∀ i, i < z → ∃ j, j < z ∧ rowE pl tk tp td i (S j)) ∧ (∀ j, j < z → ∃ i, i < z ∧ rowE pl tk tp td i (S j)) ∧ csum (fun i => td i - tk i) z = grw S z
theorem RStg.z0 {pl tk tp td : Nat → Int} {S : Nat → ED} : RStg pl tk tp td S 0 := ⟨fun i h => absurd h (Nat.not_lt_zero i), fun i h => absurd h (Nat.not_lt_zero i), rfl⟩
theorem RPast.z0 {pa : Nat → Int} {Hs : Nat → PG} : RPast pa Hs 0 := fun i h => absurd h (Nat.not_lt_zero i)
def RInv (h : qH) (r : Nat) (X : XS) : Prop := ∃ s pa im kp ta pl tk tp td : Nat → Int, RH h r X.2.2.2.1.2 X.2.1.1 X.2.2.1.2 s pa im kp ta pl tk tp td ∧ SP s X.1 ∧ RPast pa X.2.2.2.1.1 X.2.2.2.1.2 ∧ RImg im kp X.2.2.2.2 ∧ (∀ j, j < X.2.1.1 → ta j = X.2.1.2 j) ∧ RStg pl tk tp td X.2.2.1.1 X.2.2.1.2
theorem RInv.fr {h h' : qH} {r : Nat} {X : XS} (a : RInv h r X) (b : ∀ q, r ≤ q → q < r + 10 → h' q = h q) : RInv h' r X := by
  obtain ⟨s, pa, im, kp, ta, pl, tk, tp, td, a1, a2⟩ := a
  exact ⟨s, pa, im, kp, ta, pl, tk, tp, td, a1.fr b, a2⟩
section REF4
variable {l : Launch} {h : qH} {sz r : Nat} {X : XS}
set_option maxRecDepth 100000 in
set_option maxHeartbeats 4000000 in
theorem r_type {b : Int} (hb : iR b) (hR : RInv h r X) (wx : wfX X) : qRt l mX7_type 0 0 [.ref r, vI b] h sz (fun w h' sz' => w = vI (oType X b).1 ∧ RInv h' r (oType X b).2 ∧ Fr h h' r (r + 10) ∧ sz' = sz) := by
  obtain ⟨s, pa, im, kp, ta, pl, tk, tp, td, hH, hP, hY, hI, hT, hZ⟩ := id hR
  obtain ⟨ho, c1, c2, c3, c4, c5, c6, c7, c8, c9⟩ := id hH
  obtain ⟨p0, p1, p2, pT, pC, pM⟩ := id hP
  have hw : wf 216 X.1 := wx.1.1.up (by have := wx.1.1.1; omega)
  obtain ⟨⟨⟨w1, w2, w3, w4, w5, w6, w7⟩, w8⟩, ⟨w9, w10⟩, wS, wz, wH, wy, wI⟩ := id wx
  have wcl := hw.c_le
  obtain ⟨b1, b2⟩ := hb
  refine qC.of 0 (by decide) (le_b rfl) ?_
  refine qV_iload_n (pc := 0) 1 dX7_type_0 rfl rfl ?_
  refine qV_iconst (pc := 1) dX7_type_1 ?_
  refine qV_sipush (pc := 2) dX7_type_2 rfl ?_
  refine qV_rdS (pc := 5) (m_in ⟨b1, b2⟩ ⟨by omega, by omega⟩ ⟨by omega, by omega⟩) nX7_in lk_X7_38 dX7_type_5 ⟨le_b rfl, le_b rfl⟩ ⟨le_b rfl, le_b rfl⟩ rfl (le_b rfl) ?_
  refine qV_ifneB (pc := 8) 13 dX7_type_8 (by decide) (fun c8 => ?_) (fun c8 => ?_)
  · refine qV_aload_n (pc := 13) 0 dX7_type_13 rfl rfl ?_
    refine qV_get (pc := 14) kX7 6 (le_b rfl) lk_X7_65 rfl dX7_type_14 (by first | assumption | exact hU_self _ _ _ | (refine (hU_ne (by omega)).trans ?_; first | assumption | exact hU_self _ _ _ | (refine (hU_ne (by omega)).trans ?_; first | assumption | exact hU_self _ _ _ | (refine (hU_ne (by omega)).trans ?_; first | assumption | exact hU_self _ _ _)))) (by exact rfl) ?_
    refine qV_bipush (pc := 17) dX7_type_17 rfl ?_
    refine qV_icmp_ne (pc := 19) 25 dX7_type_19 (by decide) ⟨by omega, by omega⟩ ⟨by omega, by omega⟩ (fun c19 => ?_) (fun c19 => ?_)
    · have e0 : oType X b = (((X.2.1.1 : Nat) : Int) + 1, (X.1, (X.2.1.1 + 1, va_up X.2.1.2 X.2.1.1 b), X.2.2)) := by simp only [oType]; rw [if_neg (by omega), if_neg (by omega)]
      refine qV_heap ?_ (hU_id c5).symm rfl
      refine qV_aload_n (pc := 25) 0 dX7_type_25 rfl rfl ?_
      refine qV_get (pc := 26) kX7 5 (le_b rfl) lk_X7_23 rfl dX7_type_26 (by first | assumption | exact hU_self _ _ _ | (refine (hU_ne (by omega)).trans ?_; first | assumption | exact hU_self _ _ _ | (refine (hU_ne (by omega)).trans ?_; first | assumption | exact hU_self _ _ _ | (refine (hU_ne (by omega)).trans ?_; first | assumption | exact hU_self _ _ _)))) (by exact rfl) ?_
      refine qV_aload_n (pc := 29) 0 dX7_type_29 rfl rfl ?_
      refine qV_get (pc := 30) kX7 6 (le_b rfl) lk_X7_65 rfl dX7_type_30 (by first | assumption | exact hU_self _ _ _ | (refine (hU_ne (by omega)).trans ?_; first | assumption | exact hU_self _ _ _ | (refine (hU_ne (by omega)).trans ?_; first | assumption | exact hU_self _ _ _ | (refine (hU_ne (by omega)).trans ?_; first | assumption | exact hU_self _ _ _)))) (by exact rfl) ?_
      refine qV_iload_n (pc := 33) 1 dX7_type_33 rfl rfl ?_
      refine qV_iastM (pc := 34) (X.2.1.1) dX7_type_34 (by omega) (by omega) ?_
      refine qV_aload_n (pc := 35) 0 dX7_type_35 rfl rfl ?_
      refine qV_dup (pc := 36) dX7_type_36 rfl ?_
      refine qV_get (pc := 37) kX7 6 (le_b rfl) lk_X7_65 rfl dX7_type_37 (by first | assumption | exact hU_self _ _ _ | (refine (hU_ne (by omega)).trans ?_; first | assumption | exact hU_self _ _ _ | (refine (hU_ne (by omega)).trans ?_; first | assumption | exact hU_self _ _ _ | (refine (hU_ne (by omega)).trans ?_; first | assumption | exact hU_self _ _ _)))) (by exact rfl) ?_
      refine qV_iconst (pc := 40) dX7_type_40 ?_
      refine qV_iadd (pc := 41) dX7_type_41 ?_
      refine qV_put (pc := 42) kX7 6 (le_b rfl) lk_X7_65 rfl rfl rfl rfl dX7_type_42 (by first | assumption | exact hU_self _ _ _ | (refine (hU_ne (by omega)).trans ?_; first | assumption | exact hU_self _ _ _ | (refine (hU_ne (by omega)).trans ?_; first | assumption | exact hU_self _ _ _ | (refine (hU_ne (by omega)).trans ?_; first | assumption | exact hU_self _ _ _)))) (by exact le_b rfl) ?_
      refine qV_aload_n (pc := 45) 0 dX7_type_45 rfl rfl ?_
      refine qV_get (pc := 46) kX7 6 (le_b rfl) lk_X7_65 rfl dX7_type_46 (by first | assumption | exact hU_self _ _ _ | (refine (hU_ne (by omega)).trans ?_; first | assumption | exact hU_self _ _ _ | (refine (hU_ne (by omega)).trans ?_; first | assumption | exact hU_self _ _ _ | (refine (hU_ne (by omega)).trans ?_; first | assumption | exact hU_self _ _ _)))) (by exact rfl) ?_
      refine qV_iret (pc := 49) dX7_type_49 rfl (le_b rfl) (le_b rfl) ?_
      refine ⟨_, rfl, by rw [e0], ?_, (fun q hq => by repeat (first | with_reducible rfl | refine (hU_ne (by omega)).trans ?_)), rfl⟩
      rw [e0]
      refine ⟨s, pa, im, kp, va_up ta X.2.1.1 b, pl, tk, tp, td, RH.cast (ty := (X.2.1.1 : Int) + 1) ⟨(by first | assumption | exact hU_self _ _ _ | (refine (hU_ne (by omega)).trans ?_; first | assumption | exact hU_self _ _ _ | (refine (hU_ne (by omega)).trans ?_; first | assumption | exact hU_self _ _ _ | (refine (hU_ne (by omega)).trans ?_; first | assumption | exact hU_self _ _ _)))), (by first | assumption | exact hU_self _ _ _ | (refine (hU_ne (by omega)).trans ?_; first | assumption | exact hU_self _ _ _ | (refine (hU_ne (by omega)).trans ?_; first | assumption | exact hU_self _ _ _ | (refine (hU_ne (by omega)).trans ?_; first | assumption | exact hU_self _ _ _)))), (by first | assumption | exact hU_self _ _ _ | (refine (hU_ne (by omega)).trans ?_; first | assumption | exact hU_self _ _ _ | (refine (hU_ne (by omega)).trans ?_; first | assumption | exact hU_self _ _ _ | (refine (hU_ne (by omega)).trans ?_; first | assumption | exact hU_self _ _ _)))), (by first | assumption | exact hU_self _ _ _ | (refine (hU_ne (by omega)).trans ?_; first | assumption | exact hU_self _ _ _ | (refine (hU_ne (by omega)).trans ?_; first | assumption | exact hU_self _ _ _ | (refine (hU_ne (by omega)).trans ?_; first | assumption | exact hU_self _ _ _)))), (by first | assumption | exact hU_self _ _ _ | (refine (hU_ne (by omega)).trans ?_; first | assumption | exact hU_self _ _ _ | (refine (hU_ne (by omega)).trans ?_; first | assumption | exact hU_self _ _ _ | (refine (hU_ne (by omega)).trans ?_; first | assumption | exact hU_self _ _ _)))), (by first | assumption | exact hU_self _ _ _ | (refine (hU_ne (by omega)).trans ?_; first | assumption | exact hU_self _ _ _ | (refine (hU_ne (by omega)).trans ?_; first | assumption | exact hU_self _ _ _ | (refine (hU_ne (by omega)).trans ?_; first | assumption | exact hU_self _ _ _)))), (by first | assumption | exact hU_self _ _ _ | (refine (hU_ne (by omega)).trans ?_; first | assumption | exact hU_self _ _ _ | (refine (hU_ne (by omega)).trans ?_; first | assumption | exact hU_self _ _ _ | (refine (hU_ne (by omega)).trans ?_; first | assumption | exact hU_self _ _ _)))), (by first | assumption | exact hU_self _ _ _ | (refine (hU_ne (by omega)).trans ?_; first | assumption | exact hU_self _ _ _ | (refine (hU_ne (by omega)).trans ?_; first | assumption | exact hU_self _ _ _ | (refine (hU_ne (by omega)).trans ?_; first | assumption | exact hU_self _ _ _)))), (by first | assumption | exact hU_self _ _ _ | (refine (hU_ne (by omega)).trans ?_; first | assumption | exact hU_self _ _ _ | (refine (hU_ne (by omega)).trans ?_; first | assumption | exact hU_self _ _ _ | (refine (hU_ne (by omega)).trans ?_; first | assumption | exact hU_self _ _ _)))), (by first | assumption | exact hU_self _ _ _ | (refine (hU_ne (by omega)).trans ?_; first | assumption | exact hU_self _ _ _ | (refine (hU_ne (by omega)).trans ?_; first | assumption | exact hU_self _ _ _ | (refine (hU_ne (by omega)).trans ?_; first | assumption | exact hU_self _ _ _))))⟩ rfl (by simp only []; omega) rfl, hP, hY, hI, fun j hj => ?_, hZ⟩
      simp only [] at hj ⊢
      by_cases e : j = X.2.1.1
      · rw [e, va_up_self, va_up_self]
      · rw [va_up_ne _ _ e, va_up_ne _ _ e]; exact hT j (by omega)
    · have e0 : oType X b = (-3, X) := by simp only [oType]; rw [if_neg (by omega), if_pos (by omega)]
      refine qV_bipush (pc := 22) dX7_type_22 rfl ?_
      refine qV_iret (pc := 24) dX7_type_24 rfl (le_b rfl) (le_b rfl) ?_
      exact ⟨_, rfl, by rw [e0], by rw [e0]; exact hR, Fr.rf, rfl⟩
  · have e0 : oType X b = (-1, X) := by simp only [oType]; rw [if_pos (by omega)]
    refine qV_iconst (pc := 11) dX7_type_11 ?_
    refine qV_iret (pc := 12) dX7_type_12 rfl (le_b rfl) (le_b rfl) ?_
    exact ⟨_, rfl, by rw [e0], by rw [e0]; exact hR, Fr.rf, rfl⟩
theorem rE_clear (X : XS) : oClear X = (((X.2.1.1 : Nat) : Int), (X.1, (0, X.2.1.2), X.2.2)) := rfl
theorem rE_drops (X : XS) : oDrops X = (((X.2.2.1.2 : Nat) : Int), (X.1, X.2.1, (X.2.2.1.1, 0), X.2.2.2)) := rfl
set_option maxRecDepth 100000 in
set_option maxHeartbeats 4000000 in
theorem r_clear  (hR : RInv h r X) (wx : wfX X) : qRt l mX7_clear 0 0 [.ref r] h sz (fun w h' sz' => w = vI (oClear X).1 ∧ RInv h' r (oClear X).2 ∧ Fr h h' r (r + 10) ∧ sz' = sz) := by
  obtain ⟨s, pa, im, kp, ta, pl, tk, tp, td, hH, hP, hY, hI, hT, hZ⟩ := id hR
  obtain ⟨ho, c1, c2, c3, c4, c5, c6, c7, c8, c9⟩ := id hH
  obtain ⟨p0, p1, p2, pT, pC, pM⟩ := id hP
  have hw : wf 216 X.1 := wx.1.1.up (by have := wx.1.1.1; omega)
  obtain ⟨⟨⟨w1, w2, w3, w4, w5, w6, w7⟩, w8⟩, ⟨w9, w10⟩, wS, wz, wH, wy, wI⟩ := id wx
  have wcl := hw.c_le
  have e0 := rE_clear X
  refine qC.of 1 (by decide) (le_b rfl) ?_
  refine qV_aload_n (pc := 0) 0 dX7_clear_0 rfl rfl ?_
  refine qV_get (pc := 1) kX7 6 (le_b rfl) lk_X7_65 rfl dX7_clear_1 (by first | assumption | exact hU_self _ _ _ | (refine (hU_ne (by omega)).trans ?_; first | assumption | exact hU_self _ _ _ | (refine (hU_ne (by omega)).trans ?_; first | assumption | exact hU_self _ _ _ | (refine (hU_ne (by omega)).trans ?_; first | assumption | exact hU_self _ _ _)))) (by exact rfl) ?_
  refine qV_istore_n (pc := 4) 1 dX7_clear_4 rfl (le_b rfl) (le_b rfl) rfl ?_
  refine qV_aload_n (pc := 5) 0 dX7_clear_5 rfl rfl ?_
  refine qV_iconst (pc := 6) dX7_clear_6 ?_
  refine qV_put (pc := 7) kX7 6 (le_b rfl) lk_X7_65 rfl rfl rfl rfl dX7_clear_7 (by first | assumption | exact hU_self _ _ _ | (refine (hU_ne (by omega)).trans ?_; first | assumption | exact hU_self _ _ _ | (refine (hU_ne (by omega)).trans ?_; first | assumption | exact hU_self _ _ _ | (refine (hU_ne (by omega)).trans ?_; first | assumption | exact hU_self _ _ _)))) (by exact le_b rfl) ?_
  refine qV_iload_n (pc := 10) 1 dX7_clear_10 rfl rfl ?_
  refine qV_iret (pc := 11) dX7_clear_11 rfl (le_b rfl) (le_b rfl) ?_
  refine ⟨_, rfl, by rw [e0], ?_, (fun q hq => by repeat (first | with_reducible rfl | refine (hU_ne (by omega)).trans ?_)), rfl⟩
  rw [e0]
  exact ⟨s, pa, im, kp, ta, pl, tk, tp, td, ⟨(by first | assumption | exact hU_self _ _ _ | (refine (hU_ne (by omega)).trans ?_; first | assumption | exact hU_self _ _ _ | (refine (hU_ne (by omega)).trans ?_; first | assumption | exact hU_self _ _ _ | (refine (hU_ne (by omega)).trans ?_; first | assumption | exact hU_self _ _ _)))), (by first | assumption | exact hU_self _ _ _ | (refine (hU_ne (by omega)).trans ?_; first | assumption | exact hU_self _ _ _ | (refine (hU_ne (by omega)).trans ?_; first | assumption | exact hU_self _ _ _ | (refine (hU_ne (by omega)).trans ?_; first | assumption | exact hU_self _ _ _)))), (by first | assumption | exact hU_self _ _ _ | (refine (hU_ne (by omega)).trans ?_; first | assumption | exact hU_self _ _ _ | (refine (hU_ne (by omega)).trans ?_; first | assumption | exact hU_self _ _ _ | (refine (hU_ne (by omega)).trans ?_; first | assumption | exact hU_self _ _ _)))), (by first | assumption | exact hU_self _ _ _ | (refine (hU_ne (by omega)).trans ?_; first | assumption | exact hU_self _ _ _ | (refine (hU_ne (by omega)).trans ?_; first | assumption | exact hU_self _ _ _ | (refine (hU_ne (by omega)).trans ?_; first | assumption | exact hU_self _ _ _)))), (by first | assumption | exact hU_self _ _ _ | (refine (hU_ne (by omega)).trans ?_; first | assumption | exact hU_self _ _ _ | (refine (hU_ne (by omega)).trans ?_; first | assumption | exact hU_self _ _ _ | (refine (hU_ne (by omega)).trans ?_; first | assumption | exact hU_self _ _ _)))), (by first | assumption | exact hU_self _ _ _ | (refine (hU_ne (by omega)).trans ?_; first | assumption | exact hU_self _ _ _ | (refine (hU_ne (by omega)).trans ?_; first | assumption | exact hU_self _ _ _ | (refine (hU_ne (by omega)).trans ?_; first | assumption | exact hU_self _ _ _)))), (by first | assumption | exact hU_self _ _ _ | (refine (hU_ne (by omega)).trans ?_; first | assumption | exact hU_self _ _ _ | (refine (hU_ne (by omega)).trans ?_; first | assumption | exact hU_self _ _ _ | (refine (hU_ne (by omega)).trans ?_; first | assumption | exact hU_self _ _ _)))), (by first | assumption | exact hU_self _ _ _ | (refine (hU_ne (by omega)).trans ?_; first | assumption | exact hU_self _ _ _ | (refine (hU_ne (by omega)).trans ?_; first | assumption | exact hU_self _ _ _ | (refine (hU_ne (by omega)).trans ?_; first | assumption | exact hU_self _ _ _)))), (by first | assumption | exact hU_self _ _ _ | (refine (hU_ne (by omega)).trans ?_; first | assumption | exact hU_self _ _ _ | (refine (hU_ne (by omega)).trans ?_; first | assumption | exact hU_self _ _ _ | (refine (hU_ne (by omega)).trans ?_; first | assumption | exact hU_self _ _ _)))), (by first | assumption | exact hU_self _ _ _ | (refine (hU_ne (by omega)).trans ?_; first | assumption | exact hU_self _ _ _ | (refine (hU_ne (by omega)).trans ?_; first | assumption | exact hU_self _ _ _ | (refine (hU_ne (by omega)).trans ?_; first | assumption | exact hU_self _ _ _))))⟩, hP, hY, hI, fun j hj => absurd hj (Nat.not_lt_zero j), hZ⟩
set_option maxRecDepth 100000 in
set_option maxHeartbeats 4000000 in
theorem r_drops  (hR : RInv h r X) (wx : wfX X) : qRt l mX7_drops 0 0 [.ref r] h sz (fun w h' sz' => w = vI (oDrops X).1 ∧ RInv h' r (oDrops X).2 ∧ Fr h h' r (r + 10) ∧ sz' = sz) := by
  obtain ⟨s, pa, im, kp, ta, pl, tk, tp, td, hH, hP, hY, hI, hT, hZ⟩ := id hR
  obtain ⟨ho, c1, c2, c3, c4, c5, c6, c7, c8, c9⟩ := id hH
  obtain ⟨p0, p1, p2, pT, pC, pM⟩ := id hP
  have hw : wf 216 X.1 := wx.1.1.up (by have := wx.1.1.1; omega)
  obtain ⟨⟨⟨w1, w2, w3, w4, w5, w6, w7⟩, w8⟩, ⟨w9, w10⟩, wS, wz, wH, wy, wI⟩ := id wx
  have wcl := hw.c_le
  have e0 := rE_drops X
  refine qC.of 1 (by decide) (le_b rfl) ?_
  refine qV_aload_n (pc := 0) 0 dX7_drops_0 rfl rfl ?_
  refine qV_get (pc := 1) kX7 11 (le_b rfl) lk_X7_76 rfl dX7_drops_1 (by first | assumption | exact hU_self _ _ _ | (refine (hU_ne (by omega)).trans ?_; first | assumption | exact hU_self _ _ _ | (refine (hU_ne (by omega)).trans ?_; first | assumption | exact hU_self _ _ _ | (refine (hU_ne (by omega)).trans ?_; first | assumption | exact hU_self _ _ _)))) (by exact rfl) ?_
  refine qV_istore_n (pc := 4) 1 dX7_drops_4 rfl (le_b rfl) (le_b rfl) rfl ?_
  refine qV_aload_n (pc := 5) 0 dX7_drops_5 rfl rfl ?_
  refine qV_iconst (pc := 6) dX7_drops_6 ?_
  refine qV_put (pc := 7) kX7 11 (le_b rfl) lk_X7_76 rfl rfl rfl rfl dX7_drops_7 (by first | assumption | exact hU_self _ _ _ | (refine (hU_ne (by omega)).trans ?_; first | assumption | exact hU_self _ _ _ | (refine (hU_ne (by omega)).trans ?_; first | assumption | exact hU_self _ _ _ | (refine (hU_ne (by omega)).trans ?_; first | assumption | exact hU_self _ _ _)))) (by exact le_b rfl) ?_
  refine qV_iload_n (pc := 10) 1 dX7_drops_10 rfl rfl ?_
  refine qV_iret (pc := 11) dX7_drops_11 rfl (le_b rfl) (le_b rfl) ?_
  refine ⟨_, rfl, by rw [e0], ?_, (fun q hq => by repeat (first | with_reducible rfl | refine (hU_ne (by omega)).trans ?_)), rfl⟩
  rw [e0]
  exact ⟨s, pa, im, kp, ta, pl, tk, tp, td, ⟨(by first | assumption | exact hU_self _ _ _ | (refine (hU_ne (by omega)).trans ?_; first | assumption | exact hU_self _ _ _ | (refine (hU_ne (by omega)).trans ?_; first | assumption | exact hU_self _ _ _ | (refine (hU_ne (by omega)).trans ?_; first | assumption | exact hU_self _ _ _)))), (by first | assumption | exact hU_self _ _ _ | (refine (hU_ne (by omega)).trans ?_; first | assumption | exact hU_self _ _ _ | (refine (hU_ne (by omega)).trans ?_; first | assumption | exact hU_self _ _ _ | (refine (hU_ne (by omega)).trans ?_; first | assumption | exact hU_self _ _ _)))), (by first | assumption | exact hU_self _ _ _ | (refine (hU_ne (by omega)).trans ?_; first | assumption | exact hU_self _ _ _ | (refine (hU_ne (by omega)).trans ?_; first | assumption | exact hU_self _ _ _ | (refine (hU_ne (by omega)).trans ?_; first | assumption | exact hU_self _ _ _)))), (by first | assumption | exact hU_self _ _ _ | (refine (hU_ne (by omega)).trans ?_; first | assumption | exact hU_self _ _ _ | (refine (hU_ne (by omega)).trans ?_; first | assumption | exact hU_self _ _ _ | (refine (hU_ne (by omega)).trans ?_; first | assumption | exact hU_self _ _ _)))), (by first | assumption | exact hU_self _ _ _ | (refine (hU_ne (by omega)).trans ?_; first | assumption | exact hU_self _ _ _ | (refine (hU_ne (by omega)).trans ?_; first | assumption | exact hU_self _ _ _ | (refine (hU_ne (by omega)).trans ?_; first | assumption | exact hU_self _ _ _)))), (by first | assumption | exact hU_self _ _ _ | (refine (hU_ne (by omega)).trans ?_; first | assumption | exact hU_self _ _ _ | (refine (hU_ne (by omega)).trans ?_; first | assumption | exact hU_self _ _ _ | (refine (hU_ne (by omega)).trans ?_; first | assumption | exact hU_self _ _ _)))), (by first | assumption | exact hU_self _ _ _ | (refine (hU_ne (by omega)).trans ?_; first | assumption | exact hU_self _ _ _ | (refine (hU_ne (by omega)).trans ?_; first | assumption | exact hU_self _ _ _ | (refine (hU_ne (by omega)).trans ?_; first | assumption | exact hU_self _ _ _)))), (by first | assumption | exact hU_self _ _ _ | (refine (hU_ne (by omega)).trans ?_; first | assumption | exact hU_self _ _ _ | (refine (hU_ne (by omega)).trans ?_; first | assumption | exact hU_self _ _ _ | (refine (hU_ne (by omega)).trans ?_; first | assumption | exact hU_self _ _ _)))), (by first | assumption | exact hU_self _ _ _ | (refine (hU_ne (by omega)).trans ?_; first | assumption | exact hU_self _ _ _ | (refine (hU_ne (by omega)).trans ?_; first | assumption | exact hU_self _ _ _ | (refine (hU_ne (by omega)).trans ?_; first | assumption | exact hU_self _ _ _)))), (by first | assumption | exact hU_self _ _ _ | (refine (hU_ne (by omega)).trans ?_; first | assumption | exact hU_self _ _ _ | (refine (hU_ne (by omega)).trans ?_; first | assumption | exact hU_self _ _ _ | (refine (hU_ne (by omega)).trans ?_; first | assumption | exact hU_self _ _ _))))⟩, hP, hY, hI, hT, RStg.z0⟩
set_option maxRecDepth 100000 in
set_option maxHeartbeats 4000000 in
theorem undo_loop {y : Nat} {kn ty st : Int} {pa : Nat → Int} {h0 : qH} {Q : Option Value → qH → Nat → Prop} (ho : h r = some (rob r kn ty st)) (c2 : h (r + 2) = some (iA 0 4328 pa)) (hk : kn = y) (hy : y < 8)
    (kk : ∀ (g : Nat → Int) (x1 : Option Value), (∀ j, j < 541 → g j = pa (541 * y + j)) → qVM l mX7_undo 0 0 h0 sz Q 0 0 (hM h r g) sz 63 [some (.ref r), x1] []) :
    ∀ (d v : Nat) (q : Int) (g : Nat → Int), 541 - v = d → v ≤ 541 → q = v → (∀ j, j < v → g j = pa (541 * y + j)) → qVM l mX7_undo 0 0 h0 sz Q 0 0 (hM h r g) sz 29 [some (.ref r), some (vI q)] [] := by
  subst hk
  intro d
  induction d with
  | zero =>
    intro v q g hd hv hq g1
    obtain rfl : v = 541 := by omega
    refine qV_iload_n (pc := 29) 1 dX7_undo_29 rfl rfl ?_
    refine qV_sipush (pc := 30) dX7_undo_30 rfl ?_
    refine qV_icmp_ge (pc := 33) 63 dX7_undo_33 (by decide) ⟨by omega, by omega⟩ ⟨by omega, by omega⟩ (fun c33 => ?_) (fun c33 => ?_)
    · exact kk g _ g1
    · exfalso; omega
  | succ d ih =>
    intro v q g hd hv hq g1
    refine qV_iload_n (pc := 29) 1 dX7_undo_29 rfl rfl ?_
    refine qV_sipush (pc := 30) dX7_undo_30 rfl ?_
    refine qV_icmp_ge (pc := 33) 63 dX7_undo_33 (by decide) ⟨by omega, by omega⟩ ⟨by omega, by omega⟩ (fun c33 => ?_) (fun c33 => ?_)
    · exfalso; omega
    · refine qV_aload_n (pc := 36) 0 dX7_undo_36 rfl rfl ?_
      refine qV_get (pc := 37) kX7 0 (le_b rfl) lk_X7_7 rfl dX7_undo_37 (by first | assumption | exact hU_self _ _ _ | (refine (hU_ne (by omega)).trans ?_; first | assumption | exact hU_self _ _ _ | (refine (hU_ne (by omega)).trans ?_; first | assumption | exact hU_self _ _ _ | (refine (hU_ne (by omega)).trans ?_; first | assumption | exact hU_self _ _ _)))) (by exact rfl) ?_
      refine qV_iload_n (pc := 40) 1 dX7_undo_40 rfl rfl ?_
      refine qV_aload_n (pc := 41) 0 dX7_undo_41 rfl rfl ?_
      refine qV_get (pc := 42) kX7 1 (le_b rfl) lk_X7_13 rfl dX7_undo_42 (by first | assumption | exact hU_self _ _ _ | (refine (hU_ne (by omega)).trans ?_; first | assumption | exact hU_self _ _ _ | (refine (hU_ne (by omega)).trans ?_; first | assumption | exact hU_self _ _ _ | (refine (hU_ne (by omega)).trans ?_; first | assumption | exact hU_self _ _ _)))) (by exact rfl) ?_
      refine qV_sipush (pc := 45) dX7_undo_45 rfl ?_
      refine qV_aload_n (pc := 48) 0 dX7_undo_48 rfl rfl ?_
      refine qV_get (pc := 49) kX7 2 (le_b rfl) lk_X7_61 rfl dX7_undo_49 (by first | assumption | exact hU_self _ _ _ | (refine (hU_ne (by omega)).trans ?_; first | assumption | exact hU_self _ _ _ | (refine (hU_ne (by omega)).trans ?_; first | assumption | exact hU_self _ _ _ | (refine (hU_ne (by omega)).trans ?_; first | assumption | exact hU_self _ _ _)))) (by exact rfl) ?_
      refine qV_imul (pc := 52) dX7_undo_52 ?_
      refine qV_iload_n (pc := 53) 1 dX7_undo_53 rfl rfl ?_
      refine qV_iadd (pc := 54) dX7_undo_54 ?_
      refine qV_ialdN (pc := 55) (541 * y + v) dX7_undo_55 (by first | assumption | exact hU_self _ _ _ | (refine (hU_ne (by omega)).trans ?_; first | assumption | exact hU_self _ _ _ | (refine (hU_ne (by omega)).trans ?_; first | assumption | exact hU_self _ _ _ | (refine (hU_ne (by omega)).trans ?_; first | assumption | exact hU_self _ _ _)))) (by omega) (by omega) rfl ?_
      refine qV_iastM (pc := 56) (v) dX7_undo_56 (by omega) (by omega) ?_
      refine qV_iinc (pc := 57) 1 dX7_undo_57 rfl (le_b rfl) (le_b rfl) rfl ?_
      refine qV_goto (pc := 60) 29 dX7_undo_60 (by decide) ?_
      refine ih (v + 1) _ _ (by omega) (by omega) (by omega) (fun j hj => ?_)
      by_cases e : j = v
      · subst e; rw [va_up_self]
      · rw [va_up_ne _ _ e]; exact g1 j (by omega)
set_option maxRecDepth 100000 in
set_option maxHeartbeats 4000000 in
theorem r_undo  (hR : RInv h r X) (wx : wfX X) : qRt l mX7_undo 0 0 [.ref r] h sz (fun w h' sz' => w = vI (oUndo X).1 ∧ RInv h' r (oUndo X).2 ∧ Fr h h' r (r + 10) ∧ sz' = sz) := by
  obtain ⟨s, pa, im, kp, ta, pl, tk, tp, td, hH, hP, hY, hI, hT, hZ⟩ := id hR
  obtain ⟨ho, c1, c2, c3, c4, c5, c6, c7, c8, c9⟩ := id hH
  obtain ⟨p0, p1, p2, pT, pC, pM⟩ := id hP
  have hw : wf 216 X.1 := wx.1.1.up (by have := wx.1.1.1; omega)
  obtain ⟨⟨⟨w1, w2, w3, w4, w5, w6, w7⟩, w8⟩, ⟨w9, w10⟩, wS, wz, wH, wy, wI⟩ := id wx
  have wcl := hw.c_le
  refine qC.of 1 (by decide) (le_b rfl) ?_
  refine qV_aload_n (pc := 0) 0 dX7_undo_0 rfl rfl ?_
  refine qV_get (pc := 1) kX7 2 (le_b rfl) lk_X7_61 rfl dX7_undo_1 (by first | assumption | exact hU_self _ _ _ | (refine (hU_ne (by omega)).trans ?_; first | assumption | exact hU_self _ _ _ | (refine (hU_ne (by omega)).trans ?_; first | assumption | exact hU_self _ _ _ | (refine (hU_ne (by omega)).trans ?_; first | assumption | exact hU_self _ _ _)))) (by exact rfl) ?_
  refine qV_ifeq (pc := 4) 14 dX7_undo_4 (by decide) ⟨by omega, by omega⟩ (fun c4 => ?_) (fun c4 => ?_)
  · have e0 : oUndo X = (-2, X) := by simp only [oUndo]; rw [if_pos (by omega)]
    refine qV_bipush (pc := 14) dX7_undo_14 rfl ?_
    refine qV_iret (pc := 16) dX7_undo_16 rfl (le_b rfl) (le_b rfl) ?_
    exact ⟨_, rfl, by rw [e0], by rw [e0]; exact hR, Fr.rf, rfl⟩
  · refine qV_aload_n (pc := 7) 0 dX7_undo_7 rfl rfl ?_
    refine qV_get (pc := 8) kX7 11 (le_b rfl) lk_X7_76 rfl dX7_undo_8 (by first | assumption | exact hU_self _ _ _ | (refine (hU_ne (by omega)).trans ?_; first | assumption | exact hU_self _ _ _ | (refine (hU_ne (by omega)).trans ?_; first | assumption | exact hU_self _ _ _ | (refine (hU_ne (by omega)).trans ?_; first | assumption | exact hU_self _ _ _)))) (by exact rfl) ?_
    refine qV_ifle (pc := 11) 17 dX7_undo_11 (by decide) ⟨by omega, by omega⟩ (fun c11 => ?_) (fun c11 => ?_)
    · have e0 : oUndo X = (((X.2.2.2.1.2 : Nat) : Int) - 1, (X.2.2.2.1.1 0, X.2.1, X.2.2.1, ((fun i => X.2.2.2.1.1 (i + 1)), X.2.2.2.1.2 - 1), X.2.2.2.2)) := by simp only [oUndo]; rw [if_neg (by omega)]
      refine qV_aload_n (pc := 17) 0 dX7_undo_17 rfl rfl ?_
      refine qV_dup (pc := 18) dX7_undo_18 rfl ?_
      refine qV_get (pc := 19) kX7 2 (le_b rfl) lk_X7_61 rfl dX7_undo_19 (by first | assumption | exact hU_self _ _ _ | (refine (hU_ne (by omega)).trans ?_; first | assumption | exact hU_self _ _ _ | (refine (hU_ne (by omega)).trans ?_; first | assumption | exact hU_self _ _ _ | (refine (hU_ne (by omega)).trans ?_; first | assumption | exact hU_self _ _ _)))) (by exact rfl) ?_
      refine qV_iconst (pc := 22) dX7_undo_22 ?_
      refine qV_isub (pc := 23) dX7_undo_23 ?_
      refine qV_put (pc := 24) kX7 2 (le_b rfl) lk_X7_61 rfl rfl rfl rfl dX7_undo_24 (by first | assumption | exact hU_self _ _ _ | (refine (hU_ne (by omega)).trans ?_; first | assumption | exact hU_self _ _ _ | (refine (hU_ne (by omega)).trans ?_; first | assumption | exact hU_self _ _ _ | (refine (hU_ne (by omega)).trans ?_; first | assumption | exact hU_self _ _ _)))) (by exact le_b rfl) ?_
      refine qV_iconst (pc := 27) dX7_undo_27 ?_
      refine qV_istore_n (pc := 28) 1 dX7_undo_28 rfl (le_b rfl) (le_b rfl) rfl ?_
      have o1 : hU h r (rob r (((X.2.2.2.1.2 : Nat) : Int) - 1) X.2.1.1 X.2.2.1.2) (r + 1) = some (iA 0 541 s) := (hU_ne (by omega)).trans c1
      have o2 : hU h r (rob r (((X.2.2.2.1.2 : Nat) : Int) - 1) X.2.1.1 X.2.2.1.2) (r + 2) = some (iA 0 4328 pa) := (hU_ne (by omega)).trans c2
      refine qV_heap (h' := hM (hU h r (rob r (((X.2.2.2.1.2 : Nat) : Int) - 1) X.2.1.1 X.2.2.1.2)) r s) ?_ (hU_id o1).symm rfl
      refine undo_loop (y := X.2.2.2.1.2 - 1) (pa := pa) (kn := ((X.2.2.2.1.2 : Nat) : Int) - 1) (ty := X.2.1.1) (st := X.2.2.1.2) (hU_self _ _ _) o2 (by omega) (by omega) (fun g x1 hg => ?_) 541 0 _ s (by omega) (by omega) rfl (fun j hj => by omega)
      refine qV_aload_n (pc := 63) 0 dX7_undo_63 rfl rfl ?_
      refine qV_get (pc := 64) kX7 2 (le_b rfl) lk_X7_61 rfl dX7_undo_64 (by first | assumption | exact hU_self _ _ _ | (refine (hU_ne (by omega)).trans ?_; first | assumption | exact hU_self _ _ _ | (refine (hU_ne (by omega)).trans ?_; first | assumption | exact hU_self _ _ _ | (refine (hU_ne (by omega)).trans ?_; first | assumption | exact hU_self _ _ _)))) (by exact rfl) ?_
      refine qV_iret (pc := 67) dX7_undo_67 rfl (le_b rfl) (le_b rfl) ?_
      refine ⟨_, rfl, ?_, ?_, (fun q hq => by repeat (first | with_reducible rfl | refine (hU_ne (by omega)).trans ?_)), rfl⟩
      · rw [e0]
      · rw [e0]
        refine ⟨g, pa, im, kp, ta, pl, tk, tp, td, RH.cast (kn := ((X.2.2.2.1.2 : Nat) : Int) - 1) ⟨(by first | assumption | exact hU_self _ _ _ | (refine (hU_ne (by omega)).trans ?_; first | assumption | exact hU_self _ _ _ | (refine (hU_ne (by omega)).trans ?_; first | assumption | exact hU_self _ _ _ | (refine (hU_ne (by omega)).trans ?_; first | assumption | exact hU_self _ _ _)))), (by first | assumption | exact hU_self _ _ _ | (refine (hU_ne (by omega)).trans ?_; first | assumption | exact hU_self _ _ _ | (refine (hU_ne (by omega)).trans ?_; first | assumption | exact hU_self _ _ _ | (refine (hU_ne (by omega)).trans ?_; first | assumption | exact hU_self _ _ _)))), (by first | assumption | exact hU_self _ _ _ | (refine (hU_ne (by omega)).trans ?_; first | assumption | exact hU_self _ _ _ | (refine (hU_ne (by omega)).trans ?_; first | assumption | exact hU_self _ _ _ | (refine (hU_ne (by omega)).trans ?_; first | assumption | exact hU_self _ _ _)))), (by first | assumption | exact hU_self _ _ _ | (refine (hU_ne (by omega)).trans ?_; first | assumption | exact hU_self _ _ _ | (refine (hU_ne (by omega)).trans ?_; first | assumption | exact hU_self _ _ _ | (refine (hU_ne (by omega)).trans ?_; first | assumption | exact hU_self _ _ _)))), (by first | assumption | exact hU_self _ _ _ | (refine (hU_ne (by omega)).trans ?_; first | assumption | exact hU_self _ _ _ | (refine (hU_ne (by omega)).trans ?_; first | assumption | exact hU_self _ _ _ | (refine (hU_ne (by omega)).trans ?_; first | assumption | exact hU_self _ _ _)))), (by first | assumption | exact hU_self _ _ _ | (refine (hU_ne (by omega)).trans ?_; first | assumption | exact hU_self _ _ _ | (refine (hU_ne (by omega)).trans ?_; first | assumption | exact hU_self _ _ _ | (refine (hU_ne (by omega)).trans ?_; first | assumption | exact hU_self _ _ _)))), (by first | assumption | exact hU_self _ _ _ | (refine (hU_ne (by omega)).trans ?_; first | assumption | exact hU_self _ _ _ | (refine (hU_ne (by omega)).trans ?_; first | assumption | exact hU_self _ _ _ | (refine (hU_ne (by omega)).trans ?_; first | assumption | exact hU_self _ _ _)))), (by first | assumption | exact hU_self _ _ _ | (refine (hU_ne (by omega)).trans ?_; first | assumption | exact hU_self _ _ _ | (refine (hU_ne (by omega)).trans ?_; first | assumption | exact hU_self _ _ _ | (refine (hU_ne (by omega)).trans ?_; first | assumption | exact hU_self _ _ _)))), (by first | assumption | exact hU_self _ _ _ | (refine (hU_ne (by omega)).trans ?_; first | assumption | exact hU_self _ _ _ | (refine (hU_ne (by omega)).trans ?_; first | assumption | exact hU_self _ _ _ | (refine (hU_ne (by omega)).trans ?_; first | assumption | exact hU_self _ _ _)))), (by first | assumption | exact hU_self _ _ _ | (refine (hU_ne (by omega)).trans ?_; first | assumption | exact hU_self _ _ _ | (refine (hU_ne (by omega)).trans ?_; first | assumption | exact hU_self _ _ _ | (refine (hU_ne (by omega)).trans ?_; first | assumption | exact hU_self _ _ _))))⟩ (by simp only []; omega) rfl rfl, ?_, fun k hk => ?_, hI, hT, hZ⟩
        · have h9 := hY (X.2.2.2.1.2 - 1) (by omega)
          rw [show X.2.2.2.1.2 - 1 - (X.2.2.2.1.2 - 1) = 0 by omega] at h9
          exact h9.congr ((wH 0 (by omega)).1.up (by have := (wH 0 (by omega)).1.1; omega)) hg
        · simp only [] at hk ⊢
          have h9 := hY k (by omega)
          rw [show X.2.2.2.1.2 - 1 - 1 - k + 1 = X.2.2.2.1.2 - 1 - k by omega]
          exact h9
    · have e0 : oUndo X = (-2, X) := by simp only [oUndo]; rw [if_pos (by omega)]
      refine qV_bipush (pc := 14) dX7_undo_14 rfl ?_
      refine qV_iret (pc := 16) dX7_undo_16 rfl (le_b rfl) (le_b rfl) ?_
      exact ⟨_, rfl, by rw [e0], by rw [e0]; exact hR, Fr.rf, rfl⟩
set_option maxRecDepth 100000 in
set_option maxHeartbeats 4000000 in
theorem r_marks {a x : Int} (ha : iR a) (hx : iR x) (hR : RInv h r X) (wx : wfX X) : qRt l mX7_marks 0 0 [.ref r, vI a, vI x] h sz (fun w h' sz' => w = vI (oMarks X a x).1 ∧ RInv h' r (oMarks X a x).2 ∧ Fr h h' r (r + 10) ∧ sz' = sz) := by
  obtain ⟨s, pa, im, kp, ta, pl, tk, tp, td, hH, hP, hY, hI, hT, hZ⟩ := id hR
  obtain ⟨ho, c1, c2, c3, c4, c5, c6, c7, c8, c9⟩ := id hH
  obtain ⟨p0, p1, p2, pT, pC, pM⟩ := id hP
  have hw : wf 216 X.1 := wx.1.1.up (by have := wx.1.1.1; omega)
  obtain ⟨⟨⟨w1, w2, w3, w4, w5, w6, w7⟩, w8⟩, ⟨w9, w10⟩, wS, wz, wH, wy, wI⟩ := id wx
  have wcl := hw.c_le
  obtain ⟨a1, a2⟩ := ha
  obtain ⟨x1, x2⟩ := hx
  have hmc := mcnt_in X.1.2.2.2.2.1 26
  refine qC.of 1 (by decide) (le_b rfl) ?_
  refine qV_iload_n (pc := 0) 1 dX7_marks_0 rfl rfl ?_
  refine qV_rdS (pc := 1) (m_isName ⟨a1, a2⟩) nX7_isName lk_X7_119 dX7_marks_1 ⟨le_b rfl, le_b rfl⟩ ⟨le_b rfl, le_b rfl⟩ rfl (le_b rfl) ?_
  refine qV_ifeqB (pc := 4) 15 dX7_marks_4 (by decide) (fun c4 => ?_) (fun c4 => ?_)
  · have e0 : oMarks X a x = (-1, X) := if_pos (Or.inl (by simp only [isNm]; omega))
    refine qV_iconst (pc := 15) dX7_marks_15 ?_
    refine qV_iret (pc := 16) dX7_marks_16 rfl (le_b rfl) (le_b rfl) ?_
    exact ⟨_, rfl, by rw [e0], by rw [e0]; exact hR, Fr.rf, rfl⟩
  · refine qV_aload_n (pc := 7) 0 dX7_marks_7 rfl rfl ?_
    refine qV_iload_n (pc := 8) 2 dX7_marks_8 rfl rfl ?_
    refine qV_rdV (pc := 9) (m_isPlace ⟨x1, x2⟩ ho c1 hP hw) nX7_isPlace kX7 lk_X7_68 dX7_marks_9 (by first | assumption | exact hU_self _ _ _ | (refine (hU_ne (by omega)).trans ?_; first | assumption | exact hU_self _ _ _ | (refine (hU_ne (by omega)).trans ?_; first | assumption | exact hU_self _ _ _ | (refine (hU_ne (by omega)).trans ?_; first | assumption | exact hU_self _ _ _)))) ⟨le_b rfl, le_b rfl⟩ ⟨le_b rfl, le_b rfl⟩ rfl (le_b rfl) ?_
    refine qV_ifneB (pc := 12) 17 dX7_marks_12 (by decide) (fun c12 => ?_) (fun c12 => ?_)
    · have hmi := mq_in hw (by omega) (i := (a - 97).toNat) (by omega)
      have em := pM (a - 97).toNat (by omega)
      refine qV_aload_n (pc := 17) 0 dX7_marks_17 rfl rfl ?_
      refine qV_get (pc := 18) kX7 0 (le_b rfl) lk_X7_7 rfl dX7_marks_18 (by first | assumption | exact hU_self _ _ _ | (refine (hU_ne (by omega)).trans ?_; first | assumption | exact hU_self _ _ _ | (refine (hU_ne (by omega)).trans ?_; first | assumption | exact hU_self _ _ _ | (refine (hU_ne (by omega)).trans ?_; first | assumption | exact hU_self _ _ _)))) (by exact rfl) ?_
      refine qV_sipush (pc := 21) dX7_marks_21 rfl ?_
      refine qV_iload_n (pc := 24) 1 dX7_marks_24 rfl rfl ?_
      refine qV_iadd (pc := 25) dX7_marks_25 ?_
      refine qV_bipush (pc := 26) dX7_marks_26 rfl ?_
      refine qV_isub (pc := 28) dX7_marks_28 ?_
      refine qV_ialdN (pc := 29) (515 + (a - 97).toNat) dX7_marks_29 (by first | assumption | exact hU_self _ _ _ | (refine (hU_ne (by omega)).trans ?_; first | assumption | exact hU_self _ _ _ | (refine (hU_ne (by omega)).trans ?_; first | assumption | exact hU_self _ _ _ | (refine (hU_ne (by omega)).trans ?_; first | assumption | exact hU_self _ _ _)))) (by omega) (by omega) em ?_
      refine qV_istore_n (pc := 30) 3 dX7_marks_30 rfl (le_b rfl) (le_b rfl) rfl ?_
      refine qV_iload_n (pc := 31) 3 dX7_marks_31 rfl rfl ?_
      refine qV_ifge (pc := 32) 47 dX7_marks_32 (by decide) ⟨by omega, by omega⟩ (fun c32 => ?_) (fun c32 => ?_)
      · have hne : X.1.2.2.2.2.1 (a - 97).toNat ≠ -9 := fun q => by have := hmi.2.2.1.mpr q; omega
        have e0 : oMarks X a x = (X.1.2.2.2.2.1 (a - 97).toNat, setMk X (a - 97).toNat x) := (if_neg (by simp only [isNm, isPl]; omega)).trans (if_neg (fun q => hne q.1))
        have e9 : (if mq (X.1.2.2.2.2.1 (a - 97).toNat) < 0 then -9 else mq (X.1.2.2.2.2.1 (a - 97).toNat)) = X.1.2.2.2.2.1 (a - 97).toNat := (if_neg (by omega)).trans (hmi.2.2.2 (by omega))
        refine qV_heap ?_ (hU_id c1).symm rfl
        refine qV_aload_n (pc := 47) 0 dX7_marks_47 rfl rfl ?_
        refine qV_get (pc := 48) kX7 0 (le_b rfl) lk_X7_7 rfl dX7_marks_48 (by first | assumption | exact hU_self _ _ _ | (refine (hU_ne (by omega)).trans ?_; first | assumption | exact hU_self _ _ _ | (refine (hU_ne (by omega)).trans ?_; first | assumption | exact hU_self _ _ _ | (refine (hU_ne (by omega)).trans ?_; first | assumption | exact hU_self _ _ _)))) (by exact rfl) ?_
        refine qV_sipush (pc := 51) dX7_marks_51 rfl ?_
        refine qV_iload_n (pc := 54) 1 dX7_marks_54 rfl rfl ?_
        refine qV_iadd (pc := 55) dX7_marks_55 ?_
        refine qV_bipush (pc := 56) dX7_marks_56 rfl ?_
        refine qV_isub (pc := 58) dX7_marks_58 ?_
        refine qV_iload_n (pc := 59) 2 dX7_marks_59 rfl rfl ?_
        refine qV_iastM (pc := 60) (515 + (a - 97).toNat) dX7_marks_60 (by omega) (by omega) ?_
        refine qV_iload_n (pc := 61) 3 dX7_marks_61 rfl rfl ?_
        refine qV_rdS (pc := 62) (m_told ⟨by omega, by omega⟩) nX7_told lk_X7_125 dX7_marks_62 ⟨le_b rfl, le_b rfl⟩ ⟨le_b rfl, le_b rfl⟩ rfl (le_b rfl) ?_
        refine qV_iret (pc := 65) dX7_marks_65 rfl (le_b rfl) (le_b rfl) ?_
        refine ⟨_, rfl, by rw [e0, e9], ?_, (fun q hq => by repeat (first | with_reducible rfl | refine (hU_ne (by omega)).trans ?_)), rfl⟩
        rw [e0]
        refine ⟨va_up s (515 + (a - 97).toNat) x, pa, im, kp, ta, pl, tk, tp, td, ⟨(by first | assumption | exact hU_self _ _ _ | (refine (hU_ne (by omega)).trans ?_; first | assumption | exact hU_self _ _ _ | (refine (hU_ne (by omega)).trans ?_; first | assumption | exact hU_self _ _ _ | (refine (hU_ne (by omega)).trans ?_; first | assumption | exact hU_self _ _ _)))), (by first | assumption | exact hU_self _ _ _ | (refine (hU_ne (by omega)).trans ?_; first | assumption | exact hU_self _ _ _ | (refine (hU_ne (by omega)).trans ?_; first | assumption | exact hU_self _ _ _ | (refine (hU_ne (by omega)).trans ?_; first | assumption | exact hU_self _ _ _)))), (by first | assumption | exact hU_self _ _ _ | (refine (hU_ne (by omega)).trans ?_; first | assumption | exact hU_self _ _ _ | (refine (hU_ne (by omega)).trans ?_; first | assumption | exact hU_self _ _ _ | (refine (hU_ne (by omega)).trans ?_; first | assumption | exact hU_self _ _ _)))), (by first | assumption | exact hU_self _ _ _ | (refine (hU_ne (by omega)).trans ?_; first | assumption | exact hU_self _ _ _ | (refine (hU_ne (by omega)).trans ?_; first | assumption | exact hU_self _ _ _ | (refine (hU_ne (by omega)).trans ?_; first | assumption | exact hU_self _ _ _)))), (by first | assumption | exact hU_self _ _ _ | (refine (hU_ne (by omega)).trans ?_; first | assumption | exact hU_self _ _ _ | (refine (hU_ne (by omega)).trans ?_; first | assumption | exact hU_self _ _ _ | (refine (hU_ne (by omega)).trans ?_; first | assumption | exact hU_self _ _ _)))), (by first | assumption | exact hU_self _ _ _ | (refine (hU_ne (by omega)).trans ?_; first | assumption | exact hU_self _ _ _ | (refine (hU_ne (by omega)).trans ?_; first | assumption | exact hU_self _ _ _ | (refine (hU_ne (by omega)).trans ?_; first | assumption | exact hU_self _ _ _)))), (by first | assumption | exact hU_self _ _ _ | (refine (hU_ne (by omega)).trans ?_; first | assumption | exact hU_self _ _ _ | (refine (hU_ne (by omega)).trans ?_; first | assumption | exact hU_self _ _ _ | (refine (hU_ne (by omega)).trans ?_; first | assumption | exact hU_self _ _ _)))), (by first | assumption | exact hU_self _ _ _ | (refine (hU_ne (by omega)).trans ?_; first | assumption | exact hU_self _ _ _ | (refine (hU_ne (by omega)).trans ?_; first | assumption | exact hU_self _ _ _ | (refine (hU_ne (by omega)).trans ?_; first | assumption | exact hU_self _ _ _)))), (by first | assumption | exact hU_self _ _ _ | (refine (hU_ne (by omega)).trans ?_; first | assumption | exact hU_self _ _ _ | (refine (hU_ne (by omega)).trans ?_; first | assumption | exact hU_self _ _ _ | (refine (hU_ne (by omega)).trans ?_; first | assumption | exact hU_self _ _ _)))), (by first | assumption | exact hU_self _ _ _ | (refine (hU_ne (by omega)).trans ?_; first | assumption | exact hU_self _ _ _ | (refine (hU_ne (by omega)).trans ?_; first | assumption | exact hU_self _ _ _ | (refine (hU_ne (by omega)).trans ?_; first | assumption | exact hU_self _ _ _))))⟩, ⟨(va_up_ne _ _ (by omega)).trans p0, (va_up_ne _ _ (by omega)).trans p1, (va_up_ne _ _ (by omega)).trans p2, fun j hj => (va_up_ne _ _ (by simp only [setMk] at hj; omega)).trans (pT j hj), fun j hj => (va_up_ne _ _ (by simp only [setMk] at hj; omega)).trans (pC j hj), fun j hj => ?_⟩, hY, hI, hT, hZ⟩
        simp only [setMk]
        by_cases e : j = (a - 97).toNat
        · rw [e, va_up_self, va_up_self]; exact (if_neg (by omega)).symm
        · rw [va_up_ne _ _ (by omega), va_up_ne _ _ e]; exact pM j hj
      · refine qV_aload_n (pc := 35) 0 dX7_marks_35 rfl rfl ?_
        refine qV_rdV (pc := 36) (m_marksOf ho c1 hP hw) nX7_marksOf kX7 lk_X7_122 dX7_marks_36 (by first | assumption | exact hU_self _ _ _ | (refine (hU_ne (by omega)).trans ?_; first | assumption | exact hU_self _ _ _ | (refine (hU_ne (by omega)).trans ?_; first | assumption | exact hU_self _ _ _ | (refine (hU_ne (by omega)).trans ?_; first | assumption | exact hU_self _ _ _)))) ⟨le_b rfl, le_b rfl⟩ ⟨le_b rfl, le_b rfl⟩ rfl (le_b rfl) ?_
        refine qV_bipush (pc := 39) dX7_marks_39 rfl ?_
        refine qV_icmp_ne (pc := 41) 47 dX7_marks_41 (by decide) ⟨by omega, by omega⟩ ⟨by omega, by omega⟩ (fun c41 => ?_) (fun c41 => ?_)
        · have e0 : oMarks X a x = (X.1.2.2.2.2.1 (a - 97).toNat, setMk X (a - 97).toNat x) := (if_neg (by simp only [isNm, isPl]; omega)).trans (if_neg (fun q => by omega))
          have e9 : (if mq (X.1.2.2.2.2.1 (a - 97).toNat) < 0 then -9 else mq (X.1.2.2.2.2.1 (a - 97).toNat)) = X.1.2.2.2.2.1 (a - 97).toNat := (if_pos (by omega)).trans (hmi.2.2.1.mp (by omega)).symm
          refine qV_heap ?_ (hU_id c1).symm rfl
          refine qV_aload_n (pc := 47) 0 dX7_marks_47 rfl rfl ?_
          refine qV_get (pc := 48) kX7 0 (le_b rfl) lk_X7_7 rfl dX7_marks_48 (by first | assumption | exact hU_self _ _ _ | (refine (hU_ne (by omega)).trans ?_; first | assumption | exact hU_self _ _ _ | (refine (hU_ne (by omega)).trans ?_; first | assumption | exact hU_self _ _ _ | (refine (hU_ne (by omega)).trans ?_; first | assumption | exact hU_self _ _ _)))) (by exact rfl) ?_
          refine qV_sipush (pc := 51) dX7_marks_51 rfl ?_
          refine qV_iload_n (pc := 54) 1 dX7_marks_54 rfl rfl ?_
          refine qV_iadd (pc := 55) dX7_marks_55 ?_
          refine qV_bipush (pc := 56) dX7_marks_56 rfl ?_
          refine qV_isub (pc := 58) dX7_marks_58 ?_
          refine qV_iload_n (pc := 59) 2 dX7_marks_59 rfl rfl ?_
          refine qV_iastM (pc := 60) (515 + (a - 97).toNat) dX7_marks_60 (by omega) (by omega) ?_
          refine qV_iload_n (pc := 61) 3 dX7_marks_61 rfl rfl ?_
          refine qV_rdS (pc := 62) (m_told ⟨by omega, by omega⟩) nX7_told lk_X7_125 dX7_marks_62 ⟨le_b rfl, le_b rfl⟩ ⟨le_b rfl, le_b rfl⟩ rfl (le_b rfl) ?_
          refine qV_iret (pc := 65) dX7_marks_65 rfl (le_b rfl) (le_b rfl) ?_
          refine ⟨_, rfl, by rw [e0, e9], ?_, (fun q hq => by repeat (first | with_reducible rfl | refine (hU_ne (by omega)).trans ?_)), rfl⟩
          rw [e0]
          refine ⟨va_up s (515 + (a - 97).toNat) x, pa, im, kp, ta, pl, tk, tp, td, ⟨(by first | assumption | exact hU_self _ _ _ | (refine (hU_ne (by omega)).trans ?_; first | assumption | exact hU_self _ _ _ | (refine (hU_ne (by omega)).trans ?_; first | assumption | exact hU_self _ _ _ | (refine (hU_ne (by omega)).trans ?_; first | assumption | exact hU_self _ _ _)))), (by first | assumption | exact hU_self _ _ _ | (refine (hU_ne (by omega)).trans ?_; first | assumption | exact hU_self _ _ _ | (refine (hU_ne (by omega)).trans ?_; first | assumption | exact hU_self _ _ _ | (refine (hU_ne (by omega)).trans ?_; first | assumption | exact hU_self _ _ _)))), (by first | assumption | exact hU_self _ _ _ | (refine (hU_ne (by omega)).trans ?_; first | assumption | exact hU_self _ _ _ | (refine (hU_ne (by omega)).trans ?_; first | assumption | exact hU_self _ _ _ | (refine (hU_ne (by omega)).trans ?_; first | assumption | exact hU_self _ _ _)))), (by first | assumption | exact hU_self _ _ _ | (refine (hU_ne (by omega)).trans ?_; first | assumption | exact hU_self _ _ _ | (refine (hU_ne (by omega)).trans ?_; first | assumption | exact hU_self _ _ _ | (refine (hU_ne (by omega)).trans ?_; first | assumption | exact hU_self _ _ _)))), (by first | assumption | exact hU_self _ _ _ | (refine (hU_ne (by omega)).trans ?_; first | assumption | exact hU_self _ _ _ | (refine (hU_ne (by omega)).trans ?_; first | assumption | exact hU_self _ _ _ | (refine (hU_ne (by omega)).trans ?_; first | assumption | exact hU_self _ _ _)))), (by first | assumption | exact hU_self _ _ _ | (refine (hU_ne (by omega)).trans ?_; first | assumption | exact hU_self _ _ _ | (refine (hU_ne (by omega)).trans ?_; first | assumption | exact hU_self _ _ _ | (refine (hU_ne (by omega)).trans ?_; first | assumption | exact hU_self _ _ _)))), (by first | assumption | exact hU_self _ _ _ | (refine (hU_ne (by omega)).trans ?_; first | assumption | exact hU_self _ _ _ | (refine (hU_ne (by omega)).trans ?_; first | assumption | exact hU_self _ _ _ | (refine (hU_ne (by omega)).trans ?_; first | assumption | exact hU_self _ _ _)))), (by first | assumption | exact hU_self _ _ _ | (refine (hU_ne (by omega)).trans ?_; first | assumption | exact hU_self _ _ _ | (refine (hU_ne (by omega)).trans ?_; first | assumption | exact hU_self _ _ _ | (refine (hU_ne (by omega)).trans ?_; first | assumption | exact hU_self _ _ _)))), (by first | assumption | exact hU_self _ _ _ | (refine (hU_ne (by omega)).trans ?_; first | assumption | exact hU_self _ _ _ | (refine (hU_ne (by omega)).trans ?_; first | assumption | exact hU_self _ _ _ | (refine (hU_ne (by omega)).trans ?_; first | assumption | exact hU_self _ _ _)))), (by first | assumption | exact hU_self _ _ _ | (refine (hU_ne (by omega)).trans ?_; first | assumption | exact hU_self _ _ _ | (refine (hU_ne (by omega)).trans ?_; first | assumption | exact hU_self _ _ _ | (refine (hU_ne (by omega)).trans ?_; first | assumption | exact hU_self _ _ _))))⟩, ⟨(va_up_ne _ _ (by omega)).trans p0, (va_up_ne _ _ (by omega)).trans p1, (va_up_ne _ _ (by omega)).trans p2, fun j hj => (va_up_ne _ _ (by simp only [setMk] at hj; omega)).trans (pT j hj), fun j hj => (va_up_ne _ _ (by simp only [setMk] at hj; omega)).trans (pC j hj), fun j hj => ?_⟩, hY, hI, hT, hZ⟩
          simp only [setMk]
          by_cases e : j = (a - 97).toNat
          · rw [e, va_up_self, va_up_self]; exact (if_neg (by omega)).symm
          · rw [va_up_ne _ _ (by omega), va_up_ne _ _ e]; exact pM j hj
        · have e0 : oMarks X a x = (-3, X) := (if_neg (by simp only [isNm, isPl]; omega)).trans (if_pos ⟨hmi.2.2.1.mp (by omega), by omega⟩)
          refine qV_bipush (pc := 44) dX7_marks_44 rfl ?_
          refine qV_iret (pc := 46) dX7_marks_46 rfl (le_b rfl) (le_b rfl) ?_
          exact ⟨_, rfl, by rw [e0], by rw [e0]; exact hR, Fr.rf, rfl⟩
    · have e0 : oMarks X a x = (-1, X) := if_pos (Or.inr (by simp only [isPl]; omega))
      refine qV_iconst (pc := 15) dX7_marks_15 ?_
      refine qV_iret (pc := 16) dX7_marks_16 rfl (le_b rfl) (le_b rfl) ?_
      exact ⟨_, rfl, by rw [e0], by rw [e0]; exact hR, Fr.rf, rfl⟩
set_option maxRecDepth 100000 in
set_option maxHeartbeats 4000000 in
theorem r_lifts {a : Int} (ha : iR a) (hR : RInv h r X) (wx : wfX X) : qRt l mX7_lifts 0 0 [.ref r, vI a] h sz (fun w h' sz' => w = vI (oLifts X a).1 ∧ RInv h' r (oLifts X a).2 ∧ Fr h h' r (r + 10) ∧ sz' = sz) := by
  obtain ⟨s, pa, im, kp, ta, pl, tk, tp, td, hH, hP, hY, hI, hT, hZ⟩ := id hR
  obtain ⟨ho, c1, c2, c3, c4, c5, c6, c7, c8, c9⟩ := id hH
  obtain ⟨p0, p1, p2, pT, pC, pM⟩ := id hP
  have hw : wf 216 X.1 := wx.1.1.up (by have := wx.1.1.1; omega)
  obtain ⟨⟨⟨w1, w2, w3, w4, w5, w6, w7⟩, w8⟩, ⟨w9, w10⟩, wS, wz, wH, wy, wI⟩ := id wx
  have wcl := hw.c_le
  obtain ⟨a1, a2⟩ := ha
  refine qC.of 1 (by decide) (le_b rfl) ?_
  refine qV_iload_n (pc := 0) 1 dX7_lifts_0 rfl rfl ?_
  refine qV_rdS (pc := 1) (m_isName ⟨a1, a2⟩) nX7_isName lk_X7_119 dX7_lifts_1 ⟨le_b rfl, le_b rfl⟩ ⟨le_b rfl, le_b rfl⟩ rfl (le_b rfl) ?_
  refine qV_ifneB (pc := 4) 9 dX7_lifts_4 (by decide) (fun c4 => ?_) (fun c4 => ?_)
  · have hmi := mq_in hw (by omega) (i := (a - 97).toNat) (by omega)
    have em := pM (a - 97).toNat (by omega)
    refine qV_aload_n (pc := 9) 0 dX7_lifts_9 rfl rfl ?_
    refine qV_get (pc := 10) kX7 0 (le_b rfl) lk_X7_7 rfl dX7_lifts_10 (by first | assumption | exact hU_self _ _ _ | (refine (hU_ne (by omega)).trans ?_; first | assumption | exact hU_self _ _ _ | (refine (hU_ne (by omega)).trans ?_; first | assumption | exact hU_self _ _ _ | (refine (hU_ne (by omega)).trans ?_; first | assumption | exact hU_self _ _ _)))) (by exact rfl) ?_
    refine qV_sipush (pc := 13) dX7_lifts_13 rfl ?_
    refine qV_iload_n (pc := 16) 1 dX7_lifts_16 rfl rfl ?_
    refine qV_iadd (pc := 17) dX7_lifts_17 ?_
    refine qV_bipush (pc := 18) dX7_lifts_18 rfl ?_
    refine qV_isub (pc := 20) dX7_lifts_20 ?_
    refine qV_ialdN (pc := 21) (515 + (a - 97).toNat) dX7_lifts_21 (by first | assumption | exact hU_self _ _ _ | (refine (hU_ne (by omega)).trans ?_; first | assumption | exact hU_self _ _ _ | (refine (hU_ne (by omega)).trans ?_; first | assumption | exact hU_self _ _ _ | (refine (hU_ne (by omega)).trans ?_; first | assumption | exact hU_self _ _ _)))) (by omega) (by omega) em ?_
    refine qV_istore_n (pc := 22) 2 dX7_lifts_22 rfl (le_b rfl) (le_b rfl) rfl ?_
    refine qV_iload_n (pc := 23) 2 dX7_lifts_23 rfl rfl ?_
    refine qV_ifge (pc := 24) 30 dX7_lifts_24 (by decide) ⟨by omega, by omega⟩ (fun c24 => ?_) (fun c24 => ?_)
    · have e9 := hmi.2.2.2 (by omega)
      have e0 : oLifts X a = (X.1.2.2.2.2.1 (a - 97).toNat, setMk X (a - 97).toNat (-9)) := (if_neg (by simp only [isNm]; omega)).trans (if_neg (fun q => by have := hmi.2.2.1.mpr q; omega))
      refine qV_heap ?_ (hU_id c1).symm rfl
      refine qV_aload_n (pc := 30) 0 dX7_lifts_30 rfl rfl ?_
      refine qV_get (pc := 31) kX7 0 (le_b rfl) lk_X7_7 rfl dX7_lifts_31 (by first | assumption | exact hU_self _ _ _ | (refine (hU_ne (by omega)).trans ?_; first | assumption | exact hU_self _ _ _ | (refine (hU_ne (by omega)).trans ?_; first | assumption | exact hU_self _ _ _ | (refine (hU_ne (by omega)).trans ?_; first | assumption | exact hU_self _ _ _)))) (by exact rfl) ?_
      refine qV_sipush (pc := 34) dX7_lifts_34 rfl ?_
      refine qV_iload_n (pc := 37) 1 dX7_lifts_37 rfl rfl ?_
      refine qV_iadd (pc := 38) dX7_lifts_38 ?_
      refine qV_bipush (pc := 39) dX7_lifts_39 rfl ?_
      refine qV_isub (pc := 41) dX7_lifts_41 ?_
      refine qV_iconst (pc := 42) dX7_lifts_42 ?_
      refine qV_iastM (pc := 43) (515 + (a - 97).toNat) dX7_lifts_43 (by omega) (by omega) ?_
      refine qV_iload_n (pc := 44) 2 dX7_lifts_44 rfl rfl ?_
      refine qV_iret (pc := 45) dX7_lifts_45 rfl (le_b rfl) (le_b rfl) ?_
      refine ⟨_, rfl, by rw [e0, e9], ?_, (fun q hq => by repeat (first | with_reducible rfl | refine (hU_ne (by omega)).trans ?_)), rfl⟩
      rw [e0]
      refine ⟨va_up s (515 + (a - 97).toNat) (-1), pa, im, kp, ta, pl, tk, tp, td, ⟨(by first | assumption | exact hU_self _ _ _ | (refine (hU_ne (by omega)).trans ?_; first | assumption | exact hU_self _ _ _ | (refine (hU_ne (by omega)).trans ?_; first | assumption | exact hU_self _ _ _ | (refine (hU_ne (by omega)).trans ?_; first | assumption | exact hU_self _ _ _)))), (by first | assumption | exact hU_self _ _ _ | (refine (hU_ne (by omega)).trans ?_; first | assumption | exact hU_self _ _ _ | (refine (hU_ne (by omega)).trans ?_; first | assumption | exact hU_self _ _ _ | (refine (hU_ne (by omega)).trans ?_; first | assumption | exact hU_self _ _ _)))), (by first | assumption | exact hU_self _ _ _ | (refine (hU_ne (by omega)).trans ?_; first | assumption | exact hU_self _ _ _ | (refine (hU_ne (by omega)).trans ?_; first | assumption | exact hU_self _ _ _ | (refine (hU_ne (by omega)).trans ?_; first | assumption | exact hU_self _ _ _)))), (by first | assumption | exact hU_self _ _ _ | (refine (hU_ne (by omega)).trans ?_; first | assumption | exact hU_self _ _ _ | (refine (hU_ne (by omega)).trans ?_; first | assumption | exact hU_self _ _ _ | (refine (hU_ne (by omega)).trans ?_; first | assumption | exact hU_self _ _ _)))), (by first | assumption | exact hU_self _ _ _ | (refine (hU_ne (by omega)).trans ?_; first | assumption | exact hU_self _ _ _ | (refine (hU_ne (by omega)).trans ?_; first | assumption | exact hU_self _ _ _ | (refine (hU_ne (by omega)).trans ?_; first | assumption | exact hU_self _ _ _)))), (by first | assumption | exact hU_self _ _ _ | (refine (hU_ne (by omega)).trans ?_; first | assumption | exact hU_self _ _ _ | (refine (hU_ne (by omega)).trans ?_; first | assumption | exact hU_self _ _ _ | (refine (hU_ne (by omega)).trans ?_; first | assumption | exact hU_self _ _ _)))), (by first | assumption | exact hU_self _ _ _ | (refine (hU_ne (by omega)).trans ?_; first | assumption | exact hU_self _ _ _ | (refine (hU_ne (by omega)).trans ?_; first | assumption | exact hU_self _ _ _ | (refine (hU_ne (by omega)).trans ?_; first | assumption | exact hU_self _ _ _)))), (by first | assumption | exact hU_self _ _ _ | (refine (hU_ne (by omega)).trans ?_; first | assumption | exact hU_self _ _ _ | (refine (hU_ne (by omega)).trans ?_; first | assumption | exact hU_self _ _ _ | (refine (hU_ne (by omega)).trans ?_; first | assumption | exact hU_self _ _ _)))), (by first | assumption | exact hU_self _ _ _ | (refine (hU_ne (by omega)).trans ?_; first | assumption | exact hU_self _ _ _ | (refine (hU_ne (by omega)).trans ?_; first | assumption | exact hU_self _ _ _ | (refine (hU_ne (by omega)).trans ?_; first | assumption | exact hU_self _ _ _)))), (by first | assumption | exact hU_self _ _ _ | (refine (hU_ne (by omega)).trans ?_; first | assumption | exact hU_self _ _ _ | (refine (hU_ne (by omega)).trans ?_; first | assumption | exact hU_self _ _ _ | (refine (hU_ne (by omega)).trans ?_; first | assumption | exact hU_self _ _ _))))⟩, ⟨(va_up_ne _ _ (by omega)).trans p0, (va_up_ne _ _ (by omega)).trans p1, (va_up_ne _ _ (by omega)).trans p2, fun j hj => (va_up_ne _ _ (by simp only [setMk] at hj; omega)).trans (pT j hj), fun j hj => (va_up_ne _ _ (by simp only [setMk] at hj; omega)).trans (pC j hj), fun j hj => ?_⟩, hY, hI, hT, hZ⟩
      simp only [setMk]
      by_cases e : j = (a - 97).toNat
      · rw [e, va_up_self, va_up_self]; rfl
      · rw [va_up_ne _ _ (by omega), va_up_ne _ _ e]; exact pM j hj
    · have e0 : oLifts X a = (-2, X) := (if_neg (by simp only [isNm]; omega)).trans (if_pos (hmi.2.2.1.mp (by omega)))
      refine qV_bipush (pc := 27) dX7_lifts_27 rfl ?_
      refine qV_iret (pc := 29) dX7_lifts_29 rfl (le_b rfl) (le_b rfl) ?_
      exact ⟨_, rfl, by rw [e0], by rw [e0]; exact hR, Fr.rf, rfl⟩
  · have e0 : oLifts X a = (-1, X) := if_pos (by simp only [isNm]; omega)
    refine qV_iconst (pc := 7) dX7_lifts_7 ?_
    refine qV_iret (pc := 8) dX7_lifts_8 rfl (le_b rfl) (le_b rfl) ?_
    exact ⟨_, rfl, by rw [e0], by rw [e0]; exact hR, Fr.rf, rfl⟩
set_option maxRecDepth 100000 in
set_option maxHeartbeats 4000000 in
theorem r_seeks {x : Int} (hx : iR x) (hR : RInv h r X) (wx : wfX X) : qRt l mX7_seeks 0 0 [.ref r, vI x] h sz (fun w h' sz' => w = vI (oSeeks X x).1 ∧ RInv h' r (oSeeks X x).2 ∧ Fr h h' r (r + 10) ∧ sz' = sz) := by
  obtain ⟨s, pa, im, kp, ta, pl, tk, tp, td, hH, hP, hY, hI, hT, hZ⟩ := id hR
  obtain ⟨ho, c1, c2, c3, c4, c5, c6, c7, c8, c9⟩ := id hH
  obtain ⟨p0, p1, p2, pT, pC, pM⟩ := id hP
  have hw : wf 216 X.1 := wx.1.1.up (by have := wx.1.1.1; omega)
  obtain ⟨⟨⟨w1, w2, w3, w4, w5, w6, w7⟩, w8⟩, ⟨w9, w10⟩, wS, wz, wH, wy, wI⟩ := id wx
  have wcl := hw.c_le
  obtain ⟨x1, x2⟩ := hx
  refine qC.of 1 (by decide) (le_b rfl) ?_
  refine qV_aload_n (pc := 0) 0 dX7_seeks_0 rfl rfl ?_
  refine qV_iload_n (pc := 1) 1 dX7_seeks_1 rfl rfl ?_
  refine qV_rdV (pc := 2) (m_isPlace ⟨x1, x2⟩ ho c1 hP hw) nX7_isPlace kX7 lk_X7_68 dX7_seeks_2 (by first | assumption | exact hU_self _ _ _ | (refine (hU_ne (by omega)).trans ?_; first | assumption | exact hU_self _ _ _ | (refine (hU_ne (by omega)).trans ?_; first | assumption | exact hU_self _ _ _ | (refine (hU_ne (by omega)).trans ?_; first | assumption | exact hU_self _ _ _)))) ⟨le_b rfl, le_b rfl⟩ ⟨le_b rfl, le_b rfl⟩ rfl (le_b rfl) ?_
  refine qV_ifneB (pc := 5) 10 dX7_seeks_5 (by decide) (fun c5 => ?_) (fun c5 => ?_)
  · have e0 : oSeeks X x = (X.1.2.2.2.2.2, setRd X x) := if_neg (by simp only [isPl]; omega)
    refine qV_aload_n (pc := 10) 0 dX7_seeks_10 rfl rfl ?_
    refine qV_get (pc := 11) kX7 0 (le_b rfl) lk_X7_7 rfl dX7_seeks_11 (by first | assumption | exact hU_self _ _ _ | (refine (hU_ne (by omega)).trans ?_; first | assumption | exact hU_self _ _ _ | (refine (hU_ne (by omega)).trans ?_; first | assumption | exact hU_self _ _ _ | (refine (hU_ne (by omega)).trans ?_; first | assumption | exact hU_self _ _ _)))) (by exact rfl) ?_
    refine qV_iconst (pc := 14) dX7_seeks_14 ?_
    refine qV_ialdN (pc := 15) (2) dX7_seeks_15 (by first | assumption | exact hU_self _ _ _ | (refine (hU_ne (by omega)).trans ?_; first | assumption | exact hU_self _ _ _ | (refine (hU_ne (by omega)).trans ?_; first | assumption | exact hU_self _ _ _ | (refine (hU_ne (by omega)).trans ?_; first | assumption | exact hU_self _ _ _)))) (by omega) (by omega) p2 ?_
    refine qV_istore_n (pc := 16) 2 dX7_seeks_16 rfl (le_b rfl) (le_b rfl) rfl ?_
    refine qV_heap ?_ (hU_id c1).symm rfl
    refine qV_aload_n (pc := 17) 0 dX7_seeks_17 rfl rfl ?_
    refine qV_get (pc := 18) kX7 0 (le_b rfl) lk_X7_7 rfl dX7_seeks_18 (by first | assumption | exact hU_self _ _ _ | (refine (hU_ne (by omega)).trans ?_; first | assumption | exact hU_self _ _ _ | (refine (hU_ne (by omega)).trans ?_; first | assumption | exact hU_self _ _ _ | (refine (hU_ne (by omega)).trans ?_; first | assumption | exact hU_self _ _ _)))) (by exact rfl) ?_
    refine qV_iconst (pc := 21) dX7_seeks_21 ?_
    refine qV_iload_n (pc := 22) 1 dX7_seeks_22 rfl rfl ?_
    refine qV_iastM (pc := 23) (2) dX7_seeks_23 (by omega) (by omega) ?_
    refine qV_iload_n (pc := 24) 2 dX7_seeks_24 rfl rfl ?_
    refine qV_iret (pc := 25) dX7_seeks_25 rfl (le_b rfl) (le_b rfl) ?_
    refine ⟨_, rfl, by rw [e0], ?_, (fun q hq => by repeat (first | with_reducible rfl | refine (hU_ne (by omega)).trans ?_)), rfl⟩
    rw [e0]
    exact ⟨va_up s 2 x, pa, im, kp, ta, pl, tk, tp, td, ⟨(by first | assumption | exact hU_self _ _ _ | (refine (hU_ne (by omega)).trans ?_; first | assumption | exact hU_self _ _ _ | (refine (hU_ne (by omega)).trans ?_; first | assumption | exact hU_self _ _ _ | (refine (hU_ne (by omega)).trans ?_; first | assumption | exact hU_self _ _ _)))), (by first | assumption | exact hU_self _ _ _ | (refine (hU_ne (by omega)).trans ?_; first | assumption | exact hU_self _ _ _ | (refine (hU_ne (by omega)).trans ?_; first | assumption | exact hU_self _ _ _ | (refine (hU_ne (by omega)).trans ?_; first | assumption | exact hU_self _ _ _)))), (by first | assumption | exact hU_self _ _ _ | (refine (hU_ne (by omega)).trans ?_; first | assumption | exact hU_self _ _ _ | (refine (hU_ne (by omega)).trans ?_; first | assumption | exact hU_self _ _ _ | (refine (hU_ne (by omega)).trans ?_; first | assumption | exact hU_self _ _ _)))), (by first | assumption | exact hU_self _ _ _ | (refine (hU_ne (by omega)).trans ?_; first | assumption | exact hU_self _ _ _ | (refine (hU_ne (by omega)).trans ?_; first | assumption | exact hU_self _ _ _ | (refine (hU_ne (by omega)).trans ?_; first | assumption | exact hU_self _ _ _)))), (by first | assumption | exact hU_self _ _ _ | (refine (hU_ne (by omega)).trans ?_; first | assumption | exact hU_self _ _ _ | (refine (hU_ne (by omega)).trans ?_; first | assumption | exact hU_self _ _ _ | (refine (hU_ne (by omega)).trans ?_; first | assumption | exact hU_self _ _ _)))), (by first | assumption | exact hU_self _ _ _ | (refine (hU_ne (by omega)).trans ?_; first | assumption | exact hU_self _ _ _ | (refine (hU_ne (by omega)).trans ?_; first | assumption | exact hU_self _ _ _ | (refine (hU_ne (by omega)).trans ?_; first | assumption | exact hU_self _ _ _)))), (by first | assumption | exact hU_self _ _ _ | (refine (hU_ne (by omega)).trans ?_; first | assumption | exact hU_self _ _ _ | (refine (hU_ne (by omega)).trans ?_; first | assumption | exact hU_self _ _ _ | (refine (hU_ne (by omega)).trans ?_; first | assumption | exact hU_self _ _ _)))), (by first | assumption | exact hU_self _ _ _ | (refine (hU_ne (by omega)).trans ?_; first | assumption | exact hU_self _ _ _ | (refine (hU_ne (by omega)).trans ?_; first | assumption | exact hU_self _ _ _ | (refine (hU_ne (by omega)).trans ?_; first | assumption | exact hU_self _ _ _)))), (by first | assumption | exact hU_self _ _ _ | (refine (hU_ne (by omega)).trans ?_; first | assumption | exact hU_self _ _ _ | (refine (hU_ne (by omega)).trans ?_; first | assumption | exact hU_self _ _ _ | (refine (hU_ne (by omega)).trans ?_; first | assumption | exact hU_self _ _ _)))), (by first | assumption | exact hU_self _ _ _ | (refine (hU_ne (by omega)).trans ?_; first | assumption | exact hU_self _ _ _ | (refine (hU_ne (by omega)).trans ?_; first | assumption | exact hU_self _ _ _ | (refine (hU_ne (by omega)).trans ?_; first | assumption | exact hU_self _ _ _))))⟩, ⟨(va_up_ne _ _ (by omega)).trans p0, (va_up_ne _ _ (by omega)).trans p1, va_up_self _ _ _, fun j hj => (va_up_ne _ _ (by omega)).trans (pT j hj), fun j hj => (va_up_ne _ _ (by omega)).trans (pC j hj), fun j hj => (va_up_ne _ _ (by omega)).trans (pM j hj)⟩, hY, hI, hT, hZ⟩
  · have e0 : oSeeks X x = (-1, X) := if_pos (by simp only [isPl]; omega)
    refine qV_iconst (pc := 8) dX7_seeks_8 ?_
    refine qV_iret (pc := 9) dX7_seeks_9 rfl (le_b rfl) (le_b rfl) ?_
    exact ⟨_, rfl, by rw [e0], by rw [e0]; exact hR, Fr.rf, rfl⟩
set_option maxRecDepth 100000 in
set_option maxHeartbeats 4000000 in
theorem rreads_loop {z : Int} (hR : RInv h r X) (wx : wfX X) (hz : z = X.1.2.1 X.1.2.2.2.2.2.toNat) (hlt : X.1.2.2.2.2.2 < X.1.1) : ∀ (d p : Nat) (q : Int), X.1.1 - p = d → p ≤ X.1.1 → q = p → skp X.1.2.1 (X.1.1 - p) p = skp X.1.2.1 (X.1.1 - (X.1.2.2.2.2.2.toNat + 1)) (X.1.2.2.2.2.2.toNat + 1) → qVM l mX7_reads 0 0 h sz (fun v h' sz' => ∃ w, v = some w ∧ (w = vI (oReads X).1 ∧ RInv h' r (oReads X).2 ∧ Fr h h' r (r + 10) ∧ sz' = sz)) 0 0 h sz 29 [some (.ref r), some (vI q), some (vI z)] [] := by
  obtain ⟨s, pa, im, kp, ta, pl, tk, tp, td, hH, hP, hY, hI, hT, hZ⟩ := id hR
  obtain ⟨ho, c1, c2, c3, c4, c5, c6, c7, c8, c9⟩ := id hH
  obtain ⟨p0, p1, p2, pT, pC, pM⟩ := id hP
  have hw : wf 216 X.1 := wx.1.1.up (by have := wx.1.1.1; omega)
  obtain ⟨⟨⟨w1, w2, w3, w4, w5, w6, w7⟩, w8⟩, ⟨w9, w10⟩, wS, wz, wH, wy, wI⟩ := id wx
  have wcl := hw.c_le
  have e0 : oReads X = (X.1.2.1 X.1.2.2.2.2.2.toNat, setRd X ((skp X.1.2.1 (X.1.1 - (X.1.2.2.2.2.2.toNat + 1)) (X.1.2.2.2.2.2.toNat + 1) : Nat) : Int)) := if_neg (by omega)
  subst hz
  intro d
  have hfin : ∀ (p : Nat) (q : Int), q = p → p = skp X.1.2.1 (X.1.1 - (X.1.2.2.2.2.2.toNat + 1)) (X.1.2.2.2.2.2.toNat + 1) → qVM l mX7_reads 0 0 h sz (fun v h' sz' => ∃ w, v = some w ∧ (w = vI (oReads X).1 ∧ RInv h' r (oReads X).2 ∧ Fr h h' r (r + 10) ∧ sz' = sz)) 0 0 h sz 56 [some (.ref r), some (vI q), some (vI (X.1.2.1 X.1.2.2.2.2.2.toNat))] [] := by
    intro p q hq hp
    rw [← hp] at e0
    refine qV_heap ?_ (hU_id c1).symm rfl
    refine qV_aload_n (pc := 56) 0 dX7_reads_56 rfl rfl ?_
    refine qV_get (pc := 57) kX7 0 (le_b rfl) lk_X7_7 rfl dX7_reads_57 (by first | assumption | exact hU_self _ _ _ | (refine (hU_ne (by omega)).trans ?_; first | assumption | exact hU_self _ _ _ | (refine (hU_ne (by omega)).trans ?_; first | assumption | exact hU_self _ _ _ | (refine (hU_ne (by omega)).trans ?_; first | assumption | exact hU_self _ _ _)))) (by exact rfl) ?_
    refine qV_iconst (pc := 60) dX7_reads_60 ?_
    refine qV_iload_n (pc := 61) 1 dX7_reads_61 rfl rfl ?_
    refine qV_iastM (pc := 62) (2) dX7_reads_62 (by omega) (by omega) ?_
    refine qV_iload_n (pc := 63) 2 dX7_reads_63 rfl rfl ?_
    refine qV_iret (pc := 64) dX7_reads_64 rfl (le_b rfl) (le_b rfl) ?_
    refine ⟨_, rfl, by rw [e0], ?_, (fun q hq => by repeat (first | with_reducible rfl | refine (hU_ne (by omega)).trans ?_)), rfl⟩
    rw [e0]
    exact ⟨va_up s 2 q, pa, im, kp, ta, pl, tk, tp, td, ⟨(by first | assumption | exact hU_self _ _ _ | (refine (hU_ne (by omega)).trans ?_; first | assumption | exact hU_self _ _ _ | (refine (hU_ne (by omega)).trans ?_; first | assumption | exact hU_self _ _ _ | (refine (hU_ne (by omega)).trans ?_; first | assumption | exact hU_self _ _ _)))), (by first | assumption | exact hU_self _ _ _ | (refine (hU_ne (by omega)).trans ?_; first | assumption | exact hU_self _ _ _ | (refine (hU_ne (by omega)).trans ?_; first | assumption | exact hU_self _ _ _ | (refine (hU_ne (by omega)).trans ?_; first | assumption | exact hU_self _ _ _)))), (by first | assumption | exact hU_self _ _ _ | (refine (hU_ne (by omega)).trans ?_; first | assumption | exact hU_self _ _ _ | (refine (hU_ne (by omega)).trans ?_; first | assumption | exact hU_self _ _ _ | (refine (hU_ne (by omega)).trans ?_; first | assumption | exact hU_self _ _ _)))), (by first | assumption | exact hU_self _ _ _ | (refine (hU_ne (by omega)).trans ?_; first | assumption | exact hU_self _ _ _ | (refine (hU_ne (by omega)).trans ?_; first | assumption | exact hU_self _ _ _ | (refine (hU_ne (by omega)).trans ?_; first | assumption | exact hU_self _ _ _)))), (by first | assumption | exact hU_self _ _ _ | (refine (hU_ne (by omega)).trans ?_; first | assumption | exact hU_self _ _ _ | (refine (hU_ne (by omega)).trans ?_; first | assumption | exact hU_self _ _ _ | (refine (hU_ne (by omega)).trans ?_; first | assumption | exact hU_self _ _ _)))), (by first | assumption | exact hU_self _ _ _ | (refine (hU_ne (by omega)).trans ?_; first | assumption | exact hU_self _ _ _ | (refine (hU_ne (by omega)).trans ?_; first | assumption | exact hU_self _ _ _ | (refine (hU_ne (by omega)).trans ?_; first | assumption | exact hU_self _ _ _)))), (by first | assumption | exact hU_self _ _ _ | (refine (hU_ne (by omega)).trans ?_; first | assumption | exact hU_self _ _ _ | (refine (hU_ne (by omega)).trans ?_; first | assumption | exact hU_self _ _ _ | (refine (hU_ne (by omega)).trans ?_; first | assumption | exact hU_self _ _ _)))), (by first | assumption | exact hU_self _ _ _ | (refine (hU_ne (by omega)).trans ?_; first | assumption | exact hU_self _ _ _ | (refine (hU_ne (by omega)).trans ?_; first | assumption | exact hU_self _ _ _ | (refine (hU_ne (by omega)).trans ?_; first | assumption | exact hU_self _ _ _)))), (by first | assumption | exact hU_self _ _ _ | (refine (hU_ne (by omega)).trans ?_; first | assumption | exact hU_self _ _ _ | (refine (hU_ne (by omega)).trans ?_; first | assumption | exact hU_self _ _ _ | (refine (hU_ne (by omega)).trans ?_; first | assumption | exact hU_self _ _ _)))), (by first | assumption | exact hU_self _ _ _ | (refine (hU_ne (by omega)).trans ?_; first | assumption | exact hU_self _ _ _ | (refine (hU_ne (by omega)).trans ?_; first | assumption | exact hU_self _ _ _ | (refine (hU_ne (by omega)).trans ?_; first | assumption | exact hU_self _ _ _))))⟩, ⟨(va_up_ne _ _ (by omega)).trans p0, (va_up_ne _ _ (by omega)).trans p1, (va_up_self _ _ _).trans hq, fun j hj => (va_up_ne _ _ (by omega)).trans (pT j hj), fun j hj => (va_up_ne _ _ (by omega)).trans (pC j hj), fun j hj => (va_up_ne _ _ (by omega)).trans (pM j hj)⟩, hY, hI, hT, hZ⟩
  induction d with
  | zero =>
    intro p q hd hp hq hs
    obtain rfl : p = X.1.1 := by omega
    rw [show X.1.1 - X.1.1 = 0 by omega] at hs
    refine qV_iload_n (pc := 29) 1 dX7_reads_29 rfl rfl ?_
    refine qV_aload_n (pc := 30) 0 dX7_reads_30 rfl rfl ?_
    refine qV_get (pc := 31) kX7 0 (le_b rfl) lk_X7_7 rfl dX7_reads_31 (by first | assumption | exact hU_self _ _ _ | (refine (hU_ne (by omega)).trans ?_; first | assumption | exact hU_self _ _ _ | (refine (hU_ne (by omega)).trans ?_; first | assumption | exact hU_self _ _ _ | (refine (hU_ne (by omega)).trans ?_; first | assumption | exact hU_self _ _ _)))) (by exact rfl) ?_
    refine qV_iconst (pc := 34) dX7_reads_34 ?_
    refine qV_ialdN (pc := 35) (0) dX7_reads_35 (by first | assumption | exact hU_self _ _ _ | (refine (hU_ne (by omega)).trans ?_; first | assumption | exact hU_self _ _ _ | (refine (hU_ne (by omega)).trans ?_; first | assumption | exact hU_self _ _ _ | (refine (hU_ne (by omega)).trans ?_; first | assumption | exact hU_self _ _ _)))) (by omega) (by omega) p0 ?_
    refine qV_icmp_ge (pc := 36) 56 dX7_reads_36 (by decide) ⟨by omega, by omega⟩ ⟨by omega, by omega⟩ (fun c36 => ?_) (fun c36 => ?_)
    · exact hfin _ _ hq hs
    · exfalso; omega
  | succ d ih =>
    intro p q hd hp hq hs
    have hb := w2 p (by omega)
    rw [show X.1.1 - p = (X.1.1 - (p + 1)) + 1 by omega] at hs
    simp only [skp] at hs
    refine qV_iload_n (pc := 29) 1 dX7_reads_29 rfl rfl ?_
    refine qV_aload_n (pc := 30) 0 dX7_reads_30 rfl rfl ?_
    refine qV_get (pc := 31) kX7 0 (le_b rfl) lk_X7_7 rfl dX7_reads_31 (by first | assumption | exact hU_self _ _ _ | (refine (hU_ne (by omega)).trans ?_; first | assumption | exact hU_self _ _ _ | (refine (hU_ne (by omega)).trans ?_; first | assumption | exact hU_self _ _ _ | (refine (hU_ne (by omega)).trans ?_; first | assumption | exact hU_self _ _ _)))) (by exact rfl) ?_
    refine qV_iconst (pc := 34) dX7_reads_34 ?_
    refine qV_ialdN (pc := 35) (0) dX7_reads_35 (by first | assumption | exact hU_self _ _ _ | (refine (hU_ne (by omega)).trans ?_; first | assumption | exact hU_self _ _ _ | (refine (hU_ne (by omega)).trans ?_; first | assumption | exact hU_self _ _ _ | (refine (hU_ne (by omega)).trans ?_; first | assumption | exact hU_self _ _ _)))) (by omega) (by omega) p0 ?_
    refine qV_icmp_ge (pc := 36) 56 dX7_reads_36 (by decide) ⟨by omega, by omega⟩ ⟨by omega, by omega⟩ (fun c36 => ?_) (fun c36 => ?_)
    · exfalso; omega
    · refine qV_aload_n (pc := 39) 0 dX7_reads_39 rfl rfl ?_
      refine qV_iload_n (pc := 40) 1 dX7_reads_40 rfl rfl ?_
      refine qV_rdV (pc := 41) (m_byteAt (j := p) ho c1 hP hw hq (by omega)) nX7_byteAt kX7 lk_X7_89 dX7_reads_41 (by first | assumption | exact hU_self _ _ _ | (refine (hU_ne (by omega)).trans ?_; first | assumption | exact hU_self _ _ _ | (refine (hU_ne (by omega)).trans ?_; first | assumption | exact hU_self _ _ _ | (refine (hU_ne (by omega)).trans ?_; first | assumption | exact hU_self _ _ _)))) ⟨le_b rfl, le_b rfl⟩ ⟨le_b rfl, le_b rfl⟩ rfl (le_b rfl) ?_
      refine qV_rdS (pc := 44) (m_isLetter ⟨by omega, by omega⟩) nX7_isLetter lk_X7_86 dX7_reads_44 ⟨le_b rfl, le_b rfl⟩ ⟨le_b rfl, le_b rfl⟩ rfl (le_b rfl) ?_
      refine qV_ifneB (pc := 47) 56 dX7_reads_47 (by decide) (fun c47 => ?_) (fun c47 => ?_)
      · exact hfin _ _ hq (by rw [← hs, if_pos (by omega)])
      · refine qV_iinc (pc := 50) 1 dX7_reads_50 rfl (le_b rfl) (le_b rfl) rfl ?_
        refine qV_goto (pc := 53) 29 dX7_reads_53 (by decide) ?_
        exact ih (p + 1) _ (by omega) (by omega) (by omega) (by rw [← hs, if_neg (by omega)])
set_option maxRecDepth 100000 in
set_option maxHeartbeats 4000000 in
theorem r_reads  (hR : RInv h r X) (wx : wfX X) : qRt l mX7_reads 0 0 [.ref r] h sz (fun w h' sz' => w = vI (oReads X).1 ∧ RInv h' r (oReads X).2 ∧ Fr h h' r (r + 10) ∧ sz' = sz) := by
  obtain ⟨s, pa, im, kp, ta, pl, tk, tp, td, hH, hP, hY, hI, hT, hZ⟩ := id hR
  obtain ⟨ho, c1, c2, c3, c4, c5, c6, c7, c8, c9⟩ := id hH
  obtain ⟨p0, p1, p2, pT, pC, pM⟩ := id hP
  have hw : wf 216 X.1 := wx.1.1.up (by have := wx.1.1.1; omega)
  obtain ⟨⟨⟨w1, w2, w3, w4, w5, w6, w7⟩, w8⟩, ⟨w9, w10⟩, wS, wz, wH, wy, wI⟩ := id wx
  have wcl := hw.c_le
  refine qC.of 2 (by decide) (le_b rfl) ?_
  refine qV_aload_n (pc := 0) 0 dX7_reads_0 rfl rfl ?_
  refine qV_get (pc := 1) kX7 0 (le_b rfl) lk_X7_7 rfl dX7_reads_1 (by first | assumption | exact hU_self _ _ _ | (refine (hU_ne (by omega)).trans ?_; first | assumption | exact hU_self _ _ _ | (refine (hU_ne (by omega)).trans ?_; first | assumption | exact hU_self _ _ _ | (refine (hU_ne (by omega)).trans ?_; first | assumption | exact hU_self _ _ _)))) (by exact rfl) ?_
  refine qV_iconst (pc := 4) dX7_reads_4 ?_
  refine qV_ialdN (pc := 5) (2) dX7_reads_5 (by first | assumption | exact hU_self _ _ _ | (refine (hU_ne (by omega)).trans ?_; first | assumption | exact hU_self _ _ _ | (refine (hU_ne (by omega)).trans ?_; first | assumption | exact hU_self _ _ _ | (refine (hU_ne (by omega)).trans ?_; first | assumption | exact hU_self _ _ _)))) (by omega) (by omega) p2 ?_
  refine qV_istore_n (pc := 6) 1 dX7_reads_6 rfl (le_b rfl) (le_b rfl) rfl ?_
  refine qV_iload_n (pc := 7) 1 dX7_reads_7 rfl rfl ?_
  refine qV_aload_n (pc := 8) 0 dX7_reads_8 rfl rfl ?_
  refine qV_get (pc := 9) kX7 0 (le_b rfl) lk_X7_7 rfl dX7_reads_9 (by first | assumption | exact hU_self _ _ _ | (refine (hU_ne (by omega)).trans ?_; first | assumption | exact hU_self _ _ _ | (refine (hU_ne (by omega)).trans ?_; first | assumption | exact hU_self _ _ _ | (refine (hU_ne (by omega)).trans ?_; first | assumption | exact hU_self _ _ _)))) (by exact rfl) ?_
  refine qV_iconst (pc := 12) dX7_reads_12 ?_
  refine qV_ialdN (pc := 13) (0) dX7_reads_13 (by first | assumption | exact hU_self _ _ _ | (refine (hU_ne (by omega)).trans ?_; first | assumption | exact hU_self _ _ _ | (refine (hU_ne (by omega)).trans ?_; first | assumption | exact hU_self _ _ _ | (refine (hU_ne (by omega)).trans ?_; first | assumption | exact hU_self _ _ _)))) (by omega) (by omega) p0 ?_
  refine qV_icmp_ne (pc := 14) 20 dX7_reads_14 (by decide) ⟨by omega, by omega⟩ ⟨by omega, by omega⟩ (fun c14 => ?_) (fun c14 => ?_)
  · refine qV_aload_n (pc := 20) 0 dX7_reads_20 rfl rfl ?_
    refine qV_iload_n (pc := 21) 1 dX7_reads_21 rfl rfl ?_
    refine qV_rdV (pc := 22) (m_byteAt (j := X.1.2.2.2.2.2.toNat) ho c1 hP hw (by omega) (by omega)) nX7_byteAt kX7 lk_X7_89 dX7_reads_22 (by first | assumption | exact hU_self _ _ _ | (refine (hU_ne (by omega)).trans ?_; first | assumption | exact hU_self _ _ _ | (refine (hU_ne (by omega)).trans ?_; first | assumption | exact hU_self _ _ _ | (refine (hU_ne (by omega)).trans ?_; first | assumption | exact hU_self _ _ _)))) ⟨le_b rfl, le_b rfl⟩ ⟨le_b rfl, le_b rfl⟩ rfl (le_b rfl) ?_
    refine qV_istore_n (pc := 25) 2 dX7_reads_25 rfl (le_b rfl) (le_b rfl) rfl ?_
    refine qV_iinc (pc := 26) 1 dX7_reads_26 rfl (le_b rfl) (le_b rfl) rfl ?_
    exact rreads_loop hR wx rfl (by omega) (X.1.1 - (X.1.2.2.2.2.2.toNat + 1)) (X.1.2.2.2.2.2.toNat + 1) _ rfl (by omega) (by omega) rfl
  · have e0 : oReads X = (-9, X) := by simp only [oReads]; rw [if_pos (by omega)]
    refine qV_bipush (pc := 17) dX7_reads_17 rfl ?_
    refine qV_iret (pc := 19) dX7_reads_19 rfl (le_b rfl) (le_b rfl) ?_
    exact ⟨_, rfl, by rw [e0], by rw [e0]; exact hR, Fr.rf, rfl⟩
set_option maxRecDepth 100000 in
set_option maxHeartbeats 4000000 in
theorem keep_loop {i : Nat} {x kn ty st : Int} {s im : Nat → Int} {h0 : qH} {Q : Option Value → qH → Nat → Prop} (ho : h r = some (rob r kn ty st)) (c1 : h (r + 1) = some (iA 0 541 s)) (hx : x = i) (hi : i < 2)
    (kk : ∀ (g : Nat → Int) (x2 : Option Value), (∀ j, j < 541 → g (541 * i + j) = s j) → (∀ q, (q < 541 * i ∨ 541 * i + 541 ≤ q) → g q = im q) → qVM l mX7_keep 0 0 h0 sz Q 0 0 (hU h (r + 3) (iA 0 1082 g)) sz 44 [some (.ref r), some (vI x), x2] []) :
    ∀ (d v : Nat) (q : Int) (g : Nat → Int), 541 - v = d → v ≤ 541 → q = v → (∀ j, j < v → g (541 * i + j) = s j) → (∀ q, (q < 541 * i ∨ 541 * i + 541 ≤ q) → g q = im q) → qVM l mX7_keep 0 0 h0 sz Q 0 0 (hU h (r + 3) (iA 0 1082 g)) sz 13 [some (.ref r), some (vI x), some (vI q)] [] := by
  intro d
  induction d with
  | zero =>
    intro v q g hd hv hq g1 g2
    obtain rfl : v = 541 := by omega
    refine qV_iload_n (pc := 13) 2 dX7_keep_13 rfl rfl ?_
    refine qV_sipush (pc := 14) dX7_keep_14 rfl ?_
    refine qV_icmp_ge (pc := 17) 44 dX7_keep_17 (by decide) ⟨by omega, by omega⟩ ⟨by omega, by omega⟩ (fun c17 => ?_) (fun c17 => ?_)
    · exact kk g _ g1 g2
    · exfalso; omega
  | succ d ih =>
    intro v q g hd hv hq g1 g2
    refine qV_iload_n (pc := 13) 2 dX7_keep_13 rfl rfl ?_
    refine qV_sipush (pc := 14) dX7_keep_14 rfl ?_
    refine qV_icmp_ge (pc := 17) 44 dX7_keep_17 (by decide) ⟨by omega, by omega⟩ ⟨by omega, by omega⟩ (fun c17 => ?_) (fun c17 => ?_)
    · exfalso; omega
    · refine qV_aload_n (pc := 20) 0 dX7_keep_20 rfl rfl ?_
      refine qV_get (pc := 21) kX7 3 (le_b rfl) lk_X7_16 rfl dX7_keep_21 (by first | assumption | exact hU_self _ _ _ | (refine (hU_ne (by omega)).trans ?_; first | assumption | exact hU_self _ _ _ | (refine (hU_ne (by omega)).trans ?_; first | assumption | exact hU_self _ _ _ | (refine (hU_ne (by omega)).trans ?_; first | assumption | exact hU_self _ _ _)))) (by exact rfl) ?_
      refine qV_sipush (pc := 24) dX7_keep_24 rfl ?_
      refine qV_iload_n (pc := 27) 1 dX7_keep_27 rfl rfl ?_
      refine qV_imul (pc := 28) dX7_keep_28 ?_
      refine qV_iload_n (pc := 29) 2 dX7_keep_29 rfl rfl ?_
      refine qV_iadd (pc := 30) dX7_keep_30 ?_
      refine qV_aload_n (pc := 31) 0 dX7_keep_31 rfl rfl ?_
      refine qV_get (pc := 32) kX7 0 (le_b rfl) lk_X7_7 rfl dX7_keep_32 (by first | assumption | exact hU_self _ _ _ | (refine (hU_ne (by omega)).trans ?_; first | assumption | exact hU_self _ _ _ | (refine (hU_ne (by omega)).trans ?_; first | assumption | exact hU_self _ _ _ | (refine (hU_ne (by omega)).trans ?_; first | assumption | exact hU_self _ _ _)))) (by exact rfl) ?_
      refine qV_iload_n (pc := 35) 2 dX7_keep_35 rfl rfl ?_
      refine qV_ialdN (pc := 36) (v) dX7_keep_36 (by first | assumption | exact hU_self _ _ _ | (refine (hU_ne (by omega)).trans ?_; first | assumption | exact hU_self _ _ _ | (refine (hU_ne (by omega)).trans ?_; first | assumption | exact hU_self _ _ _ | (refine (hU_ne (by omega)).trans ?_; first | assumption | exact hU_self _ _ _)))) (by omega) (by omega) rfl ?_
      refine qV_iastM (pc := 37) (541 * i + v) dX7_keep_37 (by omega) (by omega) ?_
      refine qV_iinc (pc := 38) 2 dX7_keep_38 rfl (le_b rfl) (le_b rfl) rfl ?_
      refine qV_goto (pc := 41) 13 dX7_keep_41 (by decide) ?_
      refine ih (v + 1) _ _ (by omega) (by omega) (by omega) (fun j hj => ?_) (fun q hq => ?_)
      · by_cases e : j = v
        · subst e; rw [va_up_self]
        · rw [va_up_ne _ _ (by omega)]; exact g1 j (by omega)
      · rw [va_up_ne _ _ (by omega)]; exact g2 q hq
set_option maxRecDepth 100000 in
set_option maxHeartbeats 4000000 in
theorem r_keep {i : Int} (hi : iR i) (hR : RInv h r X) (wx : wfX X) : qRt l mX7_keep 0 0 [.ref r, vI i] h sz (fun w h' sz' => w = vI (oKeep X i).1 ∧ RInv h' r (oKeep X i).2 ∧ Fr h h' r (r + 10) ∧ sz' = sz) := by
  obtain ⟨s, pa, im, kp, ta, pl, tk, tp, td, hH, hP, hY, hI, hT, hZ⟩ := id hR
  obtain ⟨ho, c1, c2, c3, c4, c5, c6, c7, c8, c9⟩ := id hH
  obtain ⟨p0, p1, p2, pT, pC, pM⟩ := id hP
  have hw : wf 216 X.1 := wx.1.1.up (by have := wx.1.1.1; omega)
  obtain ⟨⟨⟨w1, w2, w3, w4, w5, w6, w7⟩, w8⟩, ⟨w9, w10⟩, wS, wz, wH, wy, wI⟩ := id wx
  have wcl := hw.c_le
  obtain ⟨i1, i2⟩ := hi
  refine qC.of 1 (by decide) (le_b rfl) ?_
  refine qV_iload_n (pc := 0) 1 dX7_keep_0 rfl rfl ?_
  refine qV_iconst (pc := 1) dX7_keep_1 ?_
  refine qV_iconst (pc := 2) dX7_keep_2 ?_
  refine qV_rdS (pc := 3) (m_in ⟨i1, i2⟩ ⟨by omega, by omega⟩ ⟨by omega, by omega⟩) nX7_in lk_X7_38 dX7_keep_3 ⟨le_b rfl, le_b rfl⟩ ⟨le_b rfl, le_b rfl⟩ rfl (le_b rfl) ?_
  refine qV_ifneB (pc := 6) 11 dX7_keep_6 (by decide) (fun c6 => ?_) (fun c6 => ?_)
  · have e0 : oKeep X i = (((X.1.1 : Nat) : Int), (X.1, X.2.1, X.2.2.1, X.2.2.2.1, va_up X.2.2.2.2 i.toNat (some X.1))) := by simp only [oKeep]; rw [if_neg (by omega)]
    refine qV_iconst (pc := 11) dX7_keep_11 ?_
    refine qV_istore_n (pc := 12) 2 dX7_keep_12 rfl (le_b rfl) (le_b rfl) rfl ?_
    refine qV_heap ?_ (hU_id c3).symm rfl
    refine keep_loop (i := i.toNat) (s := s) (im := im) ho c1 (by omega) (by omega) (fun g x2 g1 g2 => ?_) 541 0 _ im (by omega) (by omega) rfl (fun j hj => by omega) (fun _ _ => rfl)
    refine qV_aload_n (pc := 44) 0 dX7_keep_44 rfl rfl ?_
    refine qV_get (pc := 45) kX7 4 (le_b rfl) lk_X7_19 rfl dX7_keep_45 (by first | assumption | exact hU_self _ _ _ | (refine (hU_ne (by omega)).trans ?_; first | assumption | exact hU_self _ _ _ | (refine (hU_ne (by omega)).trans ?_; first | assumption | exact hU_self _ _ _ | (refine (hU_ne (by omega)).trans ?_; first | assumption | exact hU_self _ _ _)))) (by exact rfl) ?_
    refine qV_iload_n (pc := 48) 1 dX7_keep_48 rfl rfl ?_
    refine qV_iconst (pc := 49) dX7_keep_49 ?_
    refine qV_zast (pc := 50) (Or.inr rfl) dX7_keep_50 (by first | assumption | exact hU_self _ _ _ | (refine (hU_ne (by omega)).trans ?_; first | assumption | exact hU_self _ _ _ | (refine (hU_ne (by omega)).trans ?_; first | assumption | exact hU_self _ _ _ | (refine (hU_ne (by omega)).trans ?_; first | assumption | exact hU_self _ _ _)))) (by omega) ?_
    refine qV_aload_n (pc := 51) 0 dX7_keep_51 rfl rfl ?_
    refine qV_get (pc := 52) kX7 0 (le_b rfl) lk_X7_7 rfl dX7_keep_52 (by first | assumption | exact hU_self _ _ _ | (refine (hU_ne (by omega)).trans ?_; first | assumption | exact hU_self _ _ _ | (refine (hU_ne (by omega)).trans ?_; first | assumption | exact hU_self _ _ _ | (refine (hU_ne (by omega)).trans ?_; first | assumption | exact hU_self _ _ _)))) (by exact rfl) ?_
    refine qV_iconst (pc := 55) dX7_keep_55 ?_
    refine qV_ialdN (pc := 56) (0) dX7_keep_56 (by first | assumption | exact hU_self _ _ _ | (refine (hU_ne (by omega)).trans ?_; first | assumption | exact hU_self _ _ _ | (refine (hU_ne (by omega)).trans ?_; first | assumption | exact hU_self _ _ _ | (refine (hU_ne (by omega)).trans ?_; first | assumption | exact hU_self _ _ _)))) (by omega) (by omega) p0 ?_
    refine qV_iret (pc := 57) dX7_keep_57 rfl (le_b rfl) (le_b rfl) ?_
    refine ⟨_, rfl, by rw [e0], ?_, (fun q hq => by repeat (first | with_reducible rfl | refine (hU_ne (by omega)).trans ?_)), rfl⟩
    rw [e0]
    refine ⟨s, pa, g, va_up kp i.toNat 1, ta, pl, tk, tp, td, ⟨(by first | assumption | exact hU_self _ _ _ | (refine (hU_ne (by omega)).trans ?_; first | assumption | exact hU_self _ _ _ | (refine (hU_ne (by omega)).trans ?_; first | assumption | exact hU_self _ _ _ | (refine (hU_ne (by omega)).trans ?_; first | assumption | exact hU_self _ _ _)))), (by first | assumption | exact hU_self _ _ _ | (refine (hU_ne (by omega)).trans ?_; first | assumption | exact hU_self _ _ _ | (refine (hU_ne (by omega)).trans ?_; first | assumption | exact hU_self _ _ _ | (refine (hU_ne (by omega)).trans ?_; first | assumption | exact hU_self _ _ _)))), (by first | assumption | exact hU_self _ _ _ | (refine (hU_ne (by omega)).trans ?_; first | assumption | exact hU_self _ _ _ | (refine (hU_ne (by omega)).trans ?_; first | assumption | exact hU_self _ _ _ | (refine (hU_ne (by omega)).trans ?_; first | assumption | exact hU_self _ _ _)))), (by first | assumption | exact hU_self _ _ _ | (refine (hU_ne (by omega)).trans ?_; first | assumption | exact hU_self _ _ _ | (refine (hU_ne (by omega)).trans ?_; first | assumption | exact hU_self _ _ _ | (refine (hU_ne (by omega)).trans ?_; first | assumption | exact hU_self _ _ _)))), (by first | assumption | exact hU_self _ _ _ | (refine (hU_ne (by omega)).trans ?_; first | assumption | exact hU_self _ _ _ | (refine (hU_ne (by omega)).trans ?_; first | assumption | exact hU_self _ _ _ | (refine (hU_ne (by omega)).trans ?_; first | assumption | exact hU_self _ _ _)))), (by first | assumption | exact hU_self _ _ _ | (refine (hU_ne (by omega)).trans ?_; first | assumption | exact hU_self _ _ _ | (refine (hU_ne (by omega)).trans ?_; first | assumption | exact hU_self _ _ _ | (refine (hU_ne (by omega)).trans ?_; first | assumption | exact hU_self _ _ _)))), (by first | assumption | exact hU_self _ _ _ | (refine (hU_ne (by omega)).trans ?_; first | assumption | exact hU_self _ _ _ | (refine (hU_ne (by omega)).trans ?_; first | assumption | exact hU_self _ _ _ | (refine (hU_ne (by omega)).trans ?_; first | assumption | exact hU_self _ _ _)))), (by first | assumption | exact hU_self _ _ _ | (refine (hU_ne (by omega)).trans ?_; first | assumption | exact hU_self _ _ _ | (refine (hU_ne (by omega)).trans ?_; first | assumption | exact hU_self _ _ _ | (refine (hU_ne (by omega)).trans ?_; first | assumption | exact hU_self _ _ _)))), (by first | assumption | exact hU_self _ _ _ | (refine (hU_ne (by omega)).trans ?_; first | assumption | exact hU_self _ _ _ | (refine (hU_ne (by omega)).trans ?_; first | assumption | exact hU_self _ _ _ | (refine (hU_ne (by omega)).trans ?_; first | assumption | exact hU_self _ _ _)))), (by first | assumption | exact hU_self _ _ _ | (refine (hU_ne (by omega)).trans ?_; first | assumption | exact hU_self _ _ _ | (refine (hU_ne (by omega)).trans ?_; first | assumption | exact hU_self _ _ _ | (refine (hU_ne (by omega)).trans ?_; first | assumption | exact hU_self _ _ _))))⟩, hP, hY, fun j hj => ?_, hT, hZ⟩
    simp only []
    by_cases e : j = i.toNat
    · rw [e, va_up_self, va_up_self]
      exact ⟨fun q => absurd q (by simp), fun Q hQ => by cases hQ; exact ⟨rfl, hP.congr hw g1⟩⟩
    · rw [va_up_ne _ _ e, va_up_ne _ _ e]
      refine ⟨(hI j hj).1, fun Q hQ => ⟨((hI j hj).2 Q hQ).1, ?_⟩⟩
      have hwQ := wI j Q hQ
      exact ((hI j hj).2 Q hQ).2.congr (hwQ.1.up (by have := hwQ.1.1; omega)) (fun q hq => g2 _ (by omega))
  · have e0 : oKeep X i = (-1, X) := by simp only [oKeep]; rw [if_pos (by omega)]
    refine qV_iconst (pc := 9) dX7_keep_9 ?_
    refine qV_iret (pc := 10) dX7_keep_10 rfl (le_b rfl) (le_b rfl) ?_
    exact ⟨_, rfl, by rw [e0], by rw [e0]; exact hR, Fr.rf, rfl⟩
set_option maxRecDepth 100000 in
set_option maxHeartbeats 4000000 in
theorem back_loop {i : Nat} {x kn ty st : Int} {im : Nat → Int} {h0 : qH} {Q : Option Value → qH → Nat → Prop} (ho : h r = some (rob r kn ty st)) (c3 : h (r + 3) = some (iA 0 1082 im)) (hx : x = i) (hi : i < 2)
    (kk : ∀ (g : Nat → Int) (x2 : Option Value), (∀ j, j < 541 → g j = im (541 * i + j)) → qVM l mX7_back 0 0 h0 sz Q 0 0 (hM h r g) sz 56 [some (.ref r), some (vI x), x2] []) :
    ∀ (d v : Nat) (q : Int) (g : Nat → Int), 541 - v = d → v ≤ 541 → q = v → (∀ j, j < v → g j = im (541 * i + j)) → qVM l mX7_back 0 0 h0 sz Q 0 0 (hM h r g) sz 25 [some (.ref r), some (vI x), some (vI q)] [] := by
  intro d
  induction d with
  | zero =>
    intro v q g hd hv hq g1
    obtain rfl : v = 541 := by omega
    refine qV_iload_n (pc := 25) 2 dX7_back_25 rfl rfl ?_
    refine qV_sipush (pc := 26) dX7_back_26 rfl ?_
    refine qV_icmp_ge (pc := 29) 56 dX7_back_29 (by decide) ⟨by omega, by omega⟩ ⟨by omega, by omega⟩ (fun c29 => ?_) (fun c29 => ?_)
    · exact kk g _ g1
    · exfalso; omega
  | succ d ih =>
    intro v q g hd hv hq g1
    refine qV_iload_n (pc := 25) 2 dX7_back_25 rfl rfl ?_
    refine qV_sipush (pc := 26) dX7_back_26 rfl ?_
    refine qV_icmp_ge (pc := 29) 56 dX7_back_29 (by decide) ⟨by omega, by omega⟩ ⟨by omega, by omega⟩ (fun c29 => ?_) (fun c29 => ?_)
    · exfalso; omega
    · refine qV_aload_n (pc := 32) 0 dX7_back_32 rfl rfl ?_
      refine qV_get (pc := 33) kX7 0 (le_b rfl) lk_X7_7 rfl dX7_back_33 (by first | assumption | exact hU_self _ _ _ | (refine (hU_ne (by omega)).trans ?_; first | assumption | exact hU_self _ _ _ | (refine (hU_ne (by omega)).trans ?_; first | assumption | exact hU_self _ _ _ | (refine (hU_ne (by omega)).trans ?_; first | assumption | exact hU_self _ _ _)))) (by exact rfl) ?_
      refine qV_iload_n (pc := 36) 2 dX7_back_36 rfl rfl ?_
      refine qV_aload_n (pc := 37) 0 dX7_back_37 rfl rfl ?_
      refine qV_get (pc := 38) kX7 3 (le_b rfl) lk_X7_16 rfl dX7_back_38 (by first | assumption | exact hU_self _ _ _ | (refine (hU_ne (by omega)).trans ?_; first | assumption | exact hU_self _ _ _ | (refine (hU_ne (by omega)).trans ?_; first | assumption | exact hU_self _ _ _ | (refine (hU_ne (by omega)).trans ?_; first | assumption | exact hU_self _ _ _)))) (by exact rfl) ?_
      refine qV_sipush (pc := 41) dX7_back_41 rfl ?_
      refine qV_iload_n (pc := 44) 1 dX7_back_44 rfl rfl ?_
      refine qV_imul (pc := 45) dX7_back_45 ?_
      refine qV_iload_n (pc := 46) 2 dX7_back_46 rfl rfl ?_
      refine qV_iadd (pc := 47) dX7_back_47 ?_
      refine qV_ialdN (pc := 48) (541 * i + v) dX7_back_48 (by first | assumption | exact hU_self _ _ _ | (refine (hU_ne (by omega)).trans ?_; first | assumption | exact hU_self _ _ _ | (refine (hU_ne (by omega)).trans ?_; first | assumption | exact hU_self _ _ _ | (refine (hU_ne (by omega)).trans ?_; first | assumption | exact hU_self _ _ _)))) (by omega) (by omega) rfl ?_
      refine qV_iastM (pc := 49) (v) dX7_back_49 (by omega) (by omega) ?_
      refine qV_iinc (pc := 50) 2 dX7_back_50 rfl (le_b rfl) (le_b rfl) rfl ?_
      refine qV_goto (pc := 53) 25 dX7_back_53 (by decide) ?_
      refine ih (v + 1) _ _ (by omega) (by omega) (by omega) (fun j hj => ?_)
      by_cases e : j = v
      · subst e; rw [va_up_self]
      · rw [va_up_ne _ _ (by omega)]; exact g1 j (by omega)
set_option maxRecDepth 100000 in
set_option maxHeartbeats 4000000 in
theorem r_back {i : Int} (hi : iR i) (hR : RInv h r X) (wx : wfX X) : qRt l mX7_back 0 0 [.ref r, vI i] h sz (fun w h' sz' => w = vI (oBack X i).1 ∧ RInv h' r (oBack X i).2 ∧ Fr h h' r (r + 10) ∧ sz' = sz) := by
  obtain ⟨s, pa, im, kp, ta, pl, tk, tp, td, hH, hP, hY, hI, hT, hZ⟩ := id hR
  obtain ⟨ho, c1, c2, c3, c4, c5, c6, c7, c8, c9⟩ := id hH
  obtain ⟨p0, p1, p2, pT, pC, pM⟩ := id hP
  have hw : wf 216 X.1 := wx.1.1.up (by have := wx.1.1.1; omega)
  obtain ⟨⟨⟨w1, w2, w3, w4, w5, w6, w7⟩, w8⟩, ⟨w9, w10⟩, wS, wz, wH, wy, wI⟩ := id wx
  have wcl := hw.c_le
  obtain ⟨i1, i2⟩ := hi
  refine qC.of 1 (by decide) (le_b rfl) ?_
  refine qV_iload_n (pc := 0) 1 dX7_back_0 rfl rfl ?_
  refine qV_iconst (pc := 1) dX7_back_1 ?_
  refine qV_iconst (pc := 2) dX7_back_2 ?_
  refine qV_rdS (pc := 3) (m_in ⟨i1, i2⟩ ⟨by omega, by omega⟩ ⟨by omega, by omega⟩) nX7_in lk_X7_38 dX7_back_3 ⟨le_b rfl, le_b rfl⟩ ⟨le_b rfl, le_b rfl⟩ rfl (le_b rfl) ?_
  refine qV_ifneB (pc := 6) 11 dX7_back_6 (by decide) (fun c6 => ?_) (fun c6 => ?_)
  · refine qV_aload_n (pc := 11) 0 dX7_back_11 rfl rfl ?_
    refine qV_get (pc := 12) kX7 4 (le_b rfl) lk_X7_19 rfl dX7_back_12 (by first | assumption | exact hU_self _ _ _ | (refine (hU_ne (by omega)).trans ?_; first | assumption | exact hU_self _ _ _ | (refine (hU_ne (by omega)).trans ?_; first | assumption | exact hU_self _ _ _ | (refine (hU_ne (by omega)).trans ?_; first | assumption | exact hU_self _ _ _)))) (by exact rfl) ?_
    refine qV_iload_n (pc := 15) 1 dX7_back_15 rfl rfl ?_
    have hkp : kp i.toNat = 0 ∨ kp i.toNat = 1 := by
      cases e : X.2.2.2.2 i.toNat with
      | none => exact Or.inl ((hI i.toNat (by omega)).1 e)
      | some Q => exact Or.inr ((hI i.toNat (by omega)).2 Q e).1
    refine qV_zald (pc := 16) dX7_back_16 (by first | assumption | exact hU_self _ _ _ | (refine (hU_ne (by omega)).trans ?_; first | assumption | exact hU_self _ _ _ | (refine (hU_ne (by omega)).trans ?_; first | assumption | exact hU_self _ _ _ | (refine (hU_ne (by omega)).trans ?_; first | assumption | exact hU_self _ _ _)))) (by omega) ?_
    refine qV_ifne (pc := 17) 23 dX7_back_17 (by decide) ⟨by omega, by omega⟩ (fun c17 => ?_) (fun c17 => ?_)
    · have e1 : ∃ Q, X.2.2.2.2 i.toNat = some Q := by
        cases e : X.2.2.2.2 i.toNat with
        | none => have := (hI i.toNat (by omega)).1 e; omega
        | some Q => exact ⟨Q, rfl⟩
      obtain ⟨Q, e1⟩ := e1
      have e0 : oBack X i = (((Q.1 : Nat) : Int), (Q, X.2.1, (X.2.2.1.1, 0), (X.2.2.2.1.1, 0), X.2.2.2.2)) := by simp only [oBack]; rw [if_neg (by omega), e1]
      have hQ := ((hI i.toNat (by omega)).2 Q e1).2
      have hwQ := wI i.toNat Q e1
      refine qV_iconst (pc := 23) dX7_back_23 ?_
      refine qV_istore_n (pc := 24) 2 dX7_back_24 rfl (le_b rfl) (le_b rfl) rfl ?_
      refine qV_heap ?_ (hU_id c1).symm rfl
      refine back_loop (i := i.toNat) (im := im) ho c3 (by omega) (by omega) (fun g x2 g1 => ?_) 541 0 _ s (by omega) (by omega) rfl (fun j hj => by omega)
      have hSg : SP g Q := hQ.congr (hwQ.1.up (by have := hwQ.1.1; omega)) g1
      have eg0 := hSg.1
      refine qV_aload_n (pc := 56) 0 dX7_back_56 rfl rfl ?_
      refine qV_iconst (pc := 57) dX7_back_57 ?_
      refine qV_put (pc := 58) kX7 2 (le_b rfl) lk_X7_61 rfl rfl rfl rfl dX7_back_58 (by first | assumption | exact hU_self _ _ _ | (refine (hU_ne (by omega)).trans ?_; first | assumption | exact hU_self _ _ _ | (refine (hU_ne (by omega)).trans ?_; first | assumption | exact hU_self _ _ _ | (refine (hU_ne (by omega)).trans ?_; first | assumption | exact hU_self _ _ _)))) (by exact le_b rfl) ?_
      refine qV_aload_n (pc := 61) 0 dX7_back_61 rfl rfl ?_
      refine qV_iconst (pc := 62) dX7_back_62 ?_
      refine qV_put (pc := 63) kX7 11 (le_b rfl) lk_X7_76 rfl rfl rfl rfl dX7_back_63 (by first | assumption | exact hU_self _ _ _ | (refine (hU_ne (by omega)).trans ?_; first | assumption | exact hU_self _ _ _ | (refine (hU_ne (by omega)).trans ?_; first | assumption | exact hU_self _ _ _ | (refine (hU_ne (by omega)).trans ?_; first | assumption | exact hU_self _ _ _)))) (by exact le_b rfl) ?_
      refine qV_aload_n (pc := 66) 0 dX7_back_66 rfl rfl ?_
      refine qV_get (pc := 67) kX7 0 (le_b rfl) lk_X7_7 rfl dX7_back_67 (by first | assumption | exact hU_self _ _ _ | (refine (hU_ne (by omega)).trans ?_; first | assumption | exact hU_self _ _ _ | (refine (hU_ne (by omega)).trans ?_; first | assumption | exact hU_self _ _ _ | (refine (hU_ne (by omega)).trans ?_; first | assumption | exact hU_self _ _ _)))) (by exact rfl) ?_
      refine qV_iconst (pc := 70) dX7_back_70 ?_
      refine qV_ialdN (pc := 71) (0) dX7_back_71 (by first | assumption | exact hU_self _ _ _ | (refine (hU_ne (by omega)).trans ?_; first | assumption | exact hU_self _ _ _ | (refine (hU_ne (by omega)).trans ?_; first | assumption | exact hU_self _ _ _ | (refine (hU_ne (by omega)).trans ?_; first | assumption | exact hU_self _ _ _)))) (by omega) (by omega) eg0 ?_
      refine qV_iret (pc := 72) dX7_back_72 rfl (le_b rfl) (le_b rfl) ?_
      refine ⟨_, rfl, by rw [e0], ?_, (fun q hq => by repeat (first | with_reducible rfl | refine (hU_ne (by omega)).trans ?_)), rfl⟩
      rw [e0]
      exact ⟨g, pa, im, kp, ta, pl, tk, tp, td, ⟨(by first | assumption | exact hU_self _ _ _ | (refine (hU_ne (by omega)).trans ?_; first | assumption | exact hU_self _ _ _ | (refine (hU_ne (by omega)).trans ?_; first | assumption | exact hU_self _ _ _ | (refine (hU_ne (by omega)).trans ?_; first | assumption | exact hU_self _ _ _)))), (by first | assumption | exact hU_self _ _ _ | (refine (hU_ne (by omega)).trans ?_; first | assumption | exact hU_self _ _ _ | (refine (hU_ne (by omega)).trans ?_; first | assumption | exact hU_self _ _ _ | (refine (hU_ne (by omega)).trans ?_; first | assumption | exact hU_self _ _ _)))), (by first | assumption | exact hU_self _ _ _ | (refine (hU_ne (by omega)).trans ?_; first | assumption | exact hU_self _ _ _ | (refine (hU_ne (by omega)).trans ?_; first | assumption | exact hU_self _ _ _ | (refine (hU_ne (by omega)).trans ?_; first | assumption | exact hU_self _ _ _)))), (by first | assumption | exact hU_self _ _ _ | (refine (hU_ne (by omega)).trans ?_; first | assumption | exact hU_self _ _ _ | (refine (hU_ne (by omega)).trans ?_; first | assumption | exact hU_self _ _ _ | (refine (hU_ne (by omega)).trans ?_; first | assumption | exact hU_self _ _ _)))), (by first | assumption | exact hU_self _ _ _ | (refine (hU_ne (by omega)).trans ?_; first | assumption | exact hU_self _ _ _ | (refine (hU_ne (by omega)).trans ?_; first | assumption | exact hU_self _ _ _ | (refine (hU_ne (by omega)).trans ?_; first | assumption | exact hU_self _ _ _)))), (by first | assumption | exact hU_self _ _ _ | (refine (hU_ne (by omega)).trans ?_; first | assumption | exact hU_self _ _ _ | (refine (hU_ne (by omega)).trans ?_; first | assumption | exact hU_self _ _ _ | (refine (hU_ne (by omega)).trans ?_; first | assumption | exact hU_self _ _ _)))), (by first | assumption | exact hU_self _ _ _ | (refine (hU_ne (by omega)).trans ?_; first | assumption | exact hU_self _ _ _ | (refine (hU_ne (by omega)).trans ?_; first | assumption | exact hU_self _ _ _ | (refine (hU_ne (by omega)).trans ?_; first | assumption | exact hU_self _ _ _)))), (by first | assumption | exact hU_self _ _ _ | (refine (hU_ne (by omega)).trans ?_; first | assumption | exact hU_self _ _ _ | (refine (hU_ne (by omega)).trans ?_; first | assumption | exact hU_self _ _ _ | (refine (hU_ne (by omega)).trans ?_; first | assumption | exact hU_self _ _ _)))), (by first | assumption | exact hU_self _ _ _ | (refine (hU_ne (by omega)).trans ?_; first | assumption | exact hU_self _ _ _ | (refine (hU_ne (by omega)).trans ?_; first | assumption | exact hU_self _ _ _ | (refine (hU_ne (by omega)).trans ?_; first | assumption | exact hU_self _ _ _)))), (by first | assumption | exact hU_self _ _ _ | (refine (hU_ne (by omega)).trans ?_; first | assumption | exact hU_self _ _ _ | (refine (hU_ne (by omega)).trans ?_; first | assumption | exact hU_self _ _ _ | (refine (hU_ne (by omega)).trans ?_; first | assumption | exact hU_self _ _ _))))⟩, hSg, RPast.z0, hI, hT, RStg.z0⟩
    · have e1 : X.2.2.2.2 i.toNat = none := by
        cases e : X.2.2.2.2 i.toNat with
        | none => rfl
        | some Q => have := ((hI i.toNat (by omega)).2 Q e).1; omega
      have e0 : oBack X i = (-2, X) := by simp only [oBack]; rw [if_neg (by omega), e1]
      refine qV_bipush (pc := 20) dX7_back_20 rfl ?_
      refine qV_iret (pc := 22) dX7_back_22 rfl (le_b rfl) (le_b rfl) ?_
      exact ⟨_, rfl, by rw [e0], by rw [e0]; exact hR, Fr.rf, rfl⟩
  · have e0 : oBack X i = (-1, X) := by simp only [oBack]; rw [if_pos (by omega)]
    refine qV_iconst (pc := 9) dX7_back_9 ?_
    refine qV_iret (pc := 10) dX7_back_10 rfl (le_b rfl) (le_b rfl) ?_
    exact ⟨_, rfl, by rw [e0], by rw [e0]; exact hR, Fr.rf, rfl⟩
end REF4
