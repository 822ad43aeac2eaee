/-! ===== the reference: pages kept, pieces that change, pieces that wait ===== -/
section REF5
variable {l : Launch} {h : qH} {sz r : Nat} {X : XS}
set_option maxRecDepth 100000 in
set_option maxHeartbeats 4000000 in
theorem keeps1 {kn ty st : Int} {pa : Nat → Int} {h0 : qH} {Q : Option Value → qH → Nat → Prop} (ho : h r = some (rob r kn ty st))
    (kk : ∀ (g : Nat → Int) (x1 : Option Value), (∀ j, j < 3787 → g j = pa (j + 541)) → qVM l mX7_keeps 0 0 h0 sz Q 0 0 (hU h (r + 2) (iA 0 4328 g)) sz 40 [some (.ref r), x1] []) :
    ∀ (d v : Nat) (q : Int) (g : Nat → Int), 3787 - v = d → v ≤ 3787 → q = v → (∀ j, j < v → g j = pa (j + 541)) → (∀ j, v ≤ j → j < 4328 → g j = pa j) → qVM l mX7_keeps 0 0 h0 sz Q 0 0 (hU h (r + 2) (iA 0 4328 g)) sz 11 [some (.ref r), some (vI q)] [] := by
  intro d
  induction d with
  | zero =>
    intro v q g hd hv hq g1 g2
    obtain rfl : v = 3787 := by omega
    refine qV_iload_n (pc := 11) 1 dX7_keeps_11 rfl rfl ?_
    refine qV_sipush (pc := 12) dX7_keeps_12 rfl ?_
    refine qV_icmp_ge (pc := 15) 40 dX7_keeps_15 (by decide) ⟨by omega, by omega⟩ ⟨by omega, by omega⟩ (fun c15 => ?_) (fun c15 => ?_)
    · exact kk g _ g1
    · exfalso; omega
  | succ d ih =>
    intro v q g hd hv hq g1 g2
    have e1 := g2 (v + 541) (by omega) (by omega)
    refine qV_iload_n (pc := 11) 1 dX7_keeps_11 rfl rfl ?_
    refine qV_sipush (pc := 12) dX7_keeps_12 rfl ?_
    refine qV_icmp_ge (pc := 15) 40 dX7_keeps_15 (by decide) ⟨by omega, by omega⟩ ⟨by omega, by omega⟩ (fun c15 => ?_) (fun c15 => ?_)
    · exfalso; omega
    · refine qV_aload_n (pc := 18) 0 dX7_keeps_18 rfl rfl ?_
      refine qV_get (pc := 19) kX7 1 (le_b rfl) lk_X7_13 rfl dX7_keeps_19 (by first | assumption | exact hU_self _ _ _ | (refine (hU_ne (by omega)).trans ?_; first | assumption | exact hU_self _ _ _ | (refine (hU_ne (by omega)).trans ?_; first | assumption | exact hU_self _ _ _ | (refine (hU_ne (by omega)).trans ?_; first | assumption | exact hU_self _ _ _)))) (by exact rfl) ?_
      refine qV_iload_n (pc := 22) 1 dX7_keeps_22 rfl rfl ?_
      refine qV_aload_n (pc := 23) 0 dX7_keeps_23 rfl rfl ?_
      refine qV_get (pc := 24) kX7 1 (le_b rfl) lk_X7_13 rfl dX7_keeps_24 (by first | assumption | exact hU_self _ _ _ | (refine (hU_ne (by omega)).trans ?_; first | assumption | exact hU_self _ _ _ | (refine (hU_ne (by omega)).trans ?_; first | assumption | exact hU_self _ _ _ | (refine (hU_ne (by omega)).trans ?_; first | assumption | exact hU_self _ _ _)))) (by exact rfl) ?_
      refine qV_iload_n (pc := 27) 1 dX7_keeps_27 rfl rfl ?_
      refine qV_sipush (pc := 28) dX7_keeps_28 rfl ?_
      refine qV_iadd (pc := 31) dX7_keeps_31 ?_
      refine qV_ialdN (pc := 32) (v + 541) dX7_keeps_32 (by first | assumption | exact hU_self _ _ _ | (refine (hU_ne (by omega)).trans ?_; first | assumption | exact hU_self _ _ _ | (refine (hU_ne (by omega)).trans ?_; first | assumption | exact hU_self _ _ _ | (refine (hU_ne (by omega)).trans ?_; first | assumption | exact hU_self _ _ _)))) (by omega) (by omega) e1 ?_
      refine qV_iastM (pc := 33) (v) dX7_keeps_33 (by omega) (by omega) ?_
      refine qV_iinc (pc := 34) 1 dX7_keeps_34 rfl (le_b rfl) (le_b rfl) rfl ?_
      refine qV_goto (pc := 37) 11 dX7_keeps_37 (by decide) ?_
      refine ih (v + 1) _ _ (by omega) (by omega) (by omega) (fun j hj => ?_) (fun j hj hj2 => ?_)
      · by_cases e : j = v
        · subst e; rw [va_up_self]
        · rw [va_up_ne _ _ e]; exact g1 j (by omega)
      · rw [va_up_ne _ _ (by omega)]; exact g2 j (by omega) hj2
set_option maxRecDepth 100000 in
set_option maxHeartbeats 4000000 in
theorem keeps2 {y : Nat} {kn ty st : Int} {s pa : Nat → Int} {h0 : qH} {Q : Option Value → qH → Nat → Prop} (ho : h r = some (rob r kn ty st)) (c1 : h (r + 1) = some (iA 0 541 s)) (hk : kn = y) (hy : y < 8)
    (kk : ∀ (g : Nat → Int), (∀ j, j < 541 → g (541 * y + j) = s j) → (∀ q, q < 541 * y → g q = pa q) → Q none (hU (hU h (r + 2) (iA 0 4328 g)) r (rob r (kn + 1) ty st)) sz) :
    ∀ (d v : Nat) (q : Int) (g : Nat → Int), 541 - v = d → v ≤ 541 → q = v → (∀ j, j < v → g (541 * y + j) = s j) → (∀ q, q < 541 * y → g q = pa q) → qVM l mX7_keeps 0 0 h0 sz Q 0 0 (hU h (r + 2) (iA 0 4328 g)) sz 52 [some (.ref r), some (vI q)] [] := by
  subst hk
  intro d
  induction d with
  | zero =>
    intro v q g hd hv hq g1 g2
    obtain rfl : v = 541 := by omega
    refine qV_iload_n (pc := 52) 1 dX7_keeps_52 rfl rfl ?_
    refine qV_sipush (pc := 53) dX7_keeps_53 rfl ?_
    refine qV_icmp_ge (pc := 56) 86 dX7_keeps_56 (by decide) ⟨by omega, by omega⟩ ⟨by omega, by omega⟩ (fun c56 => ?_) (fun c56 => ?_)
    · refine qV_aload_n (pc := 86) 0 dX7_keeps_86 rfl rfl ?_
      refine qV_dup (pc := 87) dX7_keeps_87 rfl ?_
      refine qV_get (pc := 88) kX7 2 (le_b rfl) lk_X7_61 rfl dX7_keeps_88 (by first | assumption | exact hU_self _ _ _ | (refine (hU_ne (by omega)).trans ?_; first | assumption | exact hU_self _ _ _ | (refine (hU_ne (by omega)).trans ?_; first | assumption | exact hU_self _ _ _ | (refine (hU_ne (by omega)).trans ?_; first | assumption | exact hU_self _ _ _)))) (by exact rfl) ?_
      refine qV_iconst (pc := 91) dX7_keeps_91 ?_
      refine qV_iadd (pc := 92) dX7_keeps_92 ?_
      refine qV_put (pc := 93) kX7 2 (le_b rfl) lk_X7_61 rfl rfl rfl rfl dX7_keeps_93 (by first | assumption | exact hU_self _ _ _ | (refine (hU_ne (by omega)).trans ?_; first | assumption | exact hU_self _ _ _ | (refine (hU_ne (by omega)).trans ?_; first | assumption | exact hU_self _ _ _ | (refine (hU_ne (by omega)).trans ?_; first | assumption | exact hU_self _ _ _)))) (by exact le_b rfl) ?_
      refine qV_vret (pc := 96) dX7_keeps_96 rfl (le_b rfl) (le_b rfl) ?_
      exact kk g g1 g2
    · exfalso; omega
  | succ d ih =>
    intro v q g hd hv hq g1 g2
    refine qV_iload_n (pc := 52) 1 dX7_keeps_52 rfl rfl ?_
    refine qV_sipush (pc := 53) dX7_keeps_53 rfl ?_
    refine qV_icmp_ge (pc := 56) 86 dX7_keeps_56 (by decide) ⟨by omega, by omega⟩ ⟨by omega, by omega⟩ (fun c56 => ?_) (fun c56 => ?_)
    · exfalso; omega
    · refine qV_aload_n (pc := 59) 0 dX7_keeps_59 rfl rfl ?_
      refine qV_get (pc := 60) kX7 1 (le_b rfl) lk_X7_13 rfl dX7_keeps_60 (by first | assumption | exact hU_self _ _ _ | (refine (hU_ne (by omega)).trans ?_; first | assumption | exact hU_self _ _ _ | (refine (hU_ne (by omega)).trans ?_; first | assumption | exact hU_self _ _ _ | (refine (hU_ne (by omega)).trans ?_; first | assumption | exact hU_self _ _ _)))) (by exact rfl) ?_
      refine qV_sipush (pc := 63) dX7_keeps_63 rfl ?_
      refine qV_aload_n (pc := 66) 0 dX7_keeps_66 rfl rfl ?_
      refine qV_get (pc := 67) kX7 2 (le_b rfl) lk_X7_61 rfl dX7_keeps_67 (by first | assumption | exact hU_self _ _ _ | (refine (hU_ne (by omega)).trans ?_; first | assumption | exact hU_self _ _ _ | (refine (hU_ne (by omega)).trans ?_; first | assumption | exact hU_self _ _ _ | (refine (hU_ne (by omega)).trans ?_; first | assumption | exact hU_self _ _ _)))) (by exact rfl) ?_
      refine qV_imul (pc := 70) dX7_keeps_70 ?_
      refine qV_iload_n (pc := 71) 1 dX7_keeps_71 rfl rfl ?_
      refine qV_iadd (pc := 72) dX7_keeps_72 ?_
      refine qV_aload_n (pc := 73) 0 dX7_keeps_73 rfl rfl ?_
      refine qV_get (pc := 74) kX7 0 (le_b rfl) lk_X7_7 rfl dX7_keeps_74 (by first | assumption | exact hU_self _ _ _ | (refine (hU_ne (by omega)).trans ?_; first | assumption | exact hU_self _ _ _ | (refine (hU_ne (by omega)).trans ?_; first | assumption | exact hU_self _ _ _ | (refine (hU_ne (by omega)).trans ?_; first | assumption | exact hU_self _ _ _)))) (by exact rfl) ?_
      refine qV_iload_n (pc := 77) 1 dX7_keeps_77 rfl rfl ?_
      refine qV_ialdN (pc := 78) (v) dX7_keeps_78 (by first | assumption | exact hU_self _ _ _ | (refine (hU_ne (by omega)).trans ?_; first | assumption | exact hU_self _ _ _ | (refine (hU_ne (by omega)).trans ?_; first | assumption | exact hU_self _ _ _ | (refine (hU_ne (by omega)).trans ?_; first | assumption | exact hU_self _ _ _)))) (by omega) (by omega) rfl ?_
      refine qV_iastM (pc := 79) (541 * y + v) dX7_keeps_79 (by omega) (by omega) ?_
      refine qV_iinc (pc := 80) 1 dX7_keeps_80 rfl (le_b rfl) (le_b rfl) rfl ?_
      refine qV_goto (pc := 83) 52 dX7_keeps_83 (by decide) ?_
      refine ih (v + 1) _ _ (by omega) (by omega) (by omega) (fun j hj => ?_) (fun q hq => ?_)
      · by_cases e : j = v
        · subst e; rw [va_up_self]
        · rw [va_up_ne _ _ (by omega)]; exact g1 j (by omega)
      · rw [va_up_ne _ _ (by omega)]; exact g2 q hq
set_option maxRecDepth 100000 in
set_option maxHeartbeats 4000000 in
theorem m_keeps {y : Nat} {ty st : Int} {s pa im kp ta pl tk tp td : Nat → Int} {Hs : Nat → PG} {P : PG} (hH : RH h r y ty st s pa im kp ta pl tk tp td) (hP : SP s P) (hw : wf 216 P) (hY : RPast pa Hs y) (hwH : ∀ i, i < y → wf 216 (Hs i)) (hy : y ≤ 8) : qVo l mX7_keeps 0 0 [.ref r] h sz (fun h' sz' => (∃ pa', RH h' r ((min (y + 1) 8 : Nat) : Int) ty st s pa' im kp ta pl tk tp td ∧ RPast pa' (pushH Hs P) (min (y + 1) 8)) ∧ Fr h h' r (r + 10) ∧ sz' = sz) := by
  obtain ⟨ho, c1, c2, c3, c4, c5, c6, c7, c8, c9⟩ := id hH
  by_cases h8 : y = 8
  · subst h8
    refine qC.of 1 (by decide) (le_b rfl) ?_
    refine qV_aload_n (pc := 0) 0 dX7_keeps_0 rfl rfl ?_
    refine qV_get (pc := 1) kX7 2 (le_b rfl) lk_X7_61 rfl dX7_keeps_1 (by first | assumption | exact hU_self _ _ _ | (refine (hU_ne (by omega)).trans ?_; first | assumption | exact hU_self _ _ _ | (refine (hU_ne (by omega)).trans ?_; first | assumption | exact hU_self _ _ _ | (refine (hU_ne (by omega)).trans ?_; first | assumption | exact hU_self _ _ _)))) (by exact rfl) ?_
    refine qV_bipush (pc := 4) dX7_keeps_4 rfl ?_
    refine qV_icmp_ne (pc := 6) 50 dX7_keeps_6 (by decide) ⟨by omega, by omega⟩ ⟨by omega, by omega⟩ (fun c6 => ?_) (fun c6 => ?_)
    · exfalso; omega
    · refine qV_iconst (pc := 9) dX7_keeps_9 ?_
      refine qV_istore_n (pc := 10) 1 dX7_keeps_10 rfl (le_b rfl) (le_b rfl) rfl ?_
      refine qV_heap ?_ (hU_id c2).symm rfl
      refine keeps1 (pa := pa) ho (fun g x1 g1 => ?_) 3787 0 _ pa (by omega) (by omega) rfl (fun j hj => by omega) (fun _ _ _ => rfl)
      refine qV_aload_n (pc := 40) 0 dX7_keeps_40 rfl rfl ?_
      refine qV_dup (pc := 41) dX7_keeps_41 rfl ?_
      refine qV_get (pc := 42) kX7 2 (le_b rfl) lk_X7_61 rfl dX7_keeps_42 (by first | assumption | exact hU_self _ _ _ | (refine (hU_ne (by omega)).trans ?_; first | assumption | exact hU_self _ _ _ | (refine (hU_ne (by omega)).trans ?_; first | assumption | exact hU_self _ _ _ | (refine (hU_ne (by omega)).trans ?_; first | assumption | exact hU_self _ _ _)))) (by exact rfl) ?_
      refine qV_iconst (pc := 45) dX7_keeps_45 ?_
      refine qV_isub (pc := 46) dX7_keeps_46 ?_
      refine qV_put (pc := 47) kX7 2 (le_b rfl) lk_X7_61 rfl rfl rfl rfl dX7_keeps_47 (by first | assumption | exact hU_self _ _ _ | (refine (hU_ne (by omega)).trans ?_; first | assumption | exact hU_self _ _ _ | (refine (hU_ne (by omega)).trans ?_; first | assumption | exact hU_self _ _ _ | (refine (hU_ne (by omega)).trans ?_; first | assumption | exact hU_self _ _ _)))) (by exact le_b rfl) ?_
      refine qV_iconst (pc := 50) dX7_keeps_50 ?_
      refine qV_istore_n (pc := 51) 1 dX7_keeps_51 rfl (le_b rfl) (le_b rfl) rfl ?_
      have o2 : hU (hU h (r + 2) (iA 0 4328 g)) r (rob r (((8 : Nat) : Int) - 1) ty st) (r + 2) = some (iA 0 4328 g) := (hU_ne (by omega)).trans (hU_self _ _ _)
      have o1 : hU (hU h (r + 2) (iA 0 4328 g)) r (rob r (((8 : Nat) : Int) - 1) ty st) (r + 1) = some (iA 0 541 s) := (hU_ne (by omega)).trans ((hU_ne (by omega)).trans c1)
      refine qV_heap (h' := hU (hU (hU h (r + 2) (iA 0 4328 g)) r (rob r (((8 : Nat) : Int) - 1) ty st)) (r + 2) (iA 0 4328 g)) ?_ (hU_id o2).symm rfl
      refine keeps2 (y := 7) (s := s) (pa := g) (kn := ((8 : Nat) : Int) - 1) (ty := ty) (st := st) (hU_self _ _ _) o1 (by omega) (by omega) (fun g2 k1 k2 => ?_) 541 0 _ g (by omega) (by omega) rfl (fun j hj => by omega) (fun _ _ => rfl)
      refine ⟨rfl, ⟨g2, RH.cast (kn := ((8 : Nat) : Int) - 1 + 1) ⟨(by repeat (first | assumption | exact hU_self _ _ _ | refine (hU_ne (by omega)).trans ?_)), (by repeat (first | assumption | exact hU_self _ _ _ | refine (hU_ne (by omega)).trans ?_)), (by repeat (first | assumption | exact hU_self _ _ _ | refine (hU_ne (by omega)).trans ?_)), (by repeat (first | assumption | exact hU_self _ _ _ | refine (hU_ne (by omega)).trans ?_)), (by repeat (first | assumption | exact hU_self _ _ _ | refine (hU_ne (by omega)).trans ?_)), (by repeat (first | assumption | exact hU_self _ _ _ | refine (hU_ne (by omega)).trans ?_)), (by repeat (first | assumption | exact hU_self _ _ _ | refine (hU_ne (by omega)).trans ?_)), (by repeat (first | assumption | exact hU_self _ _ _ | refine (hU_ne (by omega)).trans ?_)), (by repeat (first | assumption | exact hU_self _ _ _ | refine (hU_ne (by omega)).trans ?_)), (by repeat (first | assumption | exact hU_self _ _ _ | refine (hU_ne (by omega)).trans ?_))⟩ (by omega) rfl rfl, fun k hk => ?_⟩, (fun q hq => by repeat (first | with_reducible rfl | refine (hU_ne (by omega)).trans ?_)), rfl⟩
      have hk : k < 8 := hk
      show SP (fun j => g2 (541 * k + j)) (pushH Hs P (8 - 1 - k))
      simp only [pushH]
      by_cases e : k = 7
      · subst e
        exact hP.congr hw k1
      · rw [if_neg (by omega)]
        have h9 := hY (k + 1) (by omega)
        rw [show 8 - 1 - (k + 1) = 8 - 1 - k - 1 by omega] at h9
        refine h9.congr (hwH _ (by omega)) (fun j hj => ?_)
        show g2 (541 * k + j) = pa (541 * (k + 1) + j)
        rw [k2 _ (by omega), g1 _ (by omega), show 541 * k + j + 541 = 541 * (k + 1) + j by omega]
  · have hm : min (y + 1) 8 = y + 1 := by omega
    rw [hm]
    refine qC.of 1 (by decide) (le_b rfl) ?_
    refine qV_aload_n (pc := 0) 0 dX7_keeps_0 rfl rfl ?_
    refine qV_get (pc := 1) kX7 2 (le_b rfl) lk_X7_61 rfl dX7_keeps_1 (by first | assumption | exact hU_self _ _ _ | (refine (hU_ne (by omega)).trans ?_; first | assumption | exact hU_self _ _ _ | (refine (hU_ne (by omega)).trans ?_; first | assumption | exact hU_self _ _ _ | (refine (hU_ne (by omega)).trans ?_; first | assumption | exact hU_self _ _ _)))) (by exact rfl) ?_
    refine qV_bipush (pc := 4) dX7_keeps_4 rfl ?_
    refine qV_icmp_ne (pc := 6) 50 dX7_keeps_6 (by decide) ⟨by omega, by omega⟩ ⟨by omega, by omega⟩ (fun c6 => ?_) (fun c6 => ?_)
    · refine qV_iconst (pc := 50) dX7_keeps_50 ?_
      refine qV_istore_n (pc := 51) 1 dX7_keeps_51 rfl (le_b rfl) (le_b rfl) rfl ?_
      refine qV_heap ?_ (hU_id c2).symm rfl
      refine keeps2 (y := y) (s := s) (pa := pa) ho c1 rfl (by omega) (fun g2 k1 k2 => ?_) 541 0 _ pa (by omega) (by omega) rfl (fun j hj => by omega) (fun _ _ => rfl)
      refine ⟨rfl, ⟨g2, RH.cast (kn := (y : Int) + 1) ⟨(by repeat (first | assumption | exact hU_self _ _ _ | refine (hU_ne (by omega)).trans ?_)), (by repeat (first | assumption | exact hU_self _ _ _ | refine (hU_ne (by omega)).trans ?_)), (by repeat (first | assumption | exact hU_self _ _ _ | refine (hU_ne (by omega)).trans ?_)), (by repeat (first | assumption | exact hU_self _ _ _ | refine (hU_ne (by omega)).trans ?_)), (by repeat (first | assumption | exact hU_self _ _ _ | refine (hU_ne (by omega)).trans ?_)), (by repeat (first | assumption | exact hU_self _ _ _ | refine (hU_ne (by omega)).trans ?_)), (by repeat (first | assumption | exact hU_self _ _ _ | refine (hU_ne (by omega)).trans ?_)), (by repeat (first | assumption | exact hU_self _ _ _ | refine (hU_ne (by omega)).trans ?_)), (by repeat (first | assumption | exact hU_self _ _ _ | refine (hU_ne (by omega)).trans ?_)), (by repeat (first | assumption | exact hU_self _ _ _ | refine (hU_ne (by omega)).trans ?_))⟩ (by omega) rfl rfl, fun k hk => ?_⟩, (fun q hq => by repeat (first | with_reducible rfl | refine (hU_ne (by omega)).trans ?_)), rfl⟩
      simp only [pushH]
      by_cases e : k = y
      · subst e
        rw [if_pos (by omega)]
        exact hP.congr hw k1
      · rw [if_neg (by omega)]
        have h9 := hY k (by omega)
        rw [show y - 1 - k = y + 1 - 1 - k - 1 by omega] at h9
        refine h9.congr (hwH _ (by omega)) (fun j hj => ?_)
        show g2 (541 * k + j) = pa (541 * k + j)
        rw [k2 _ (by omega)]
    · exfalso; omega
set_option maxRecDepth 100000 in
set_option maxHeartbeats 4000000 in
theorem r_edits {x k : Int} (hx : iR x) (hk : iR k) (hR : RInv h r X) (wx : wfX X) : qRt l mX7_edits 0 0 [.ref r, vI x, vI k] h sz (fun w h' sz' => w = vI (oEdits X x k).1 ∧ RInv h' r (oEdits X x k).2 ∧ Fr h h' r (r + 10) ∧ sz' = sz) := by
  obtain ⟨s, pa, im, kp, ta, pl, tk, tp, td, hH, hP, hY, hI, hT, hZ⟩ := id hR
  obtain ⟨ho, c1, c2, c3, c4, c5, c6, c7, c8, c9⟩ := id hH
  obtain ⟨p0, p1, p2, pT, pC, pM⟩ := id hP
  have hw : wf 216 X.1 := wx.1.1.up (by have := wx.1.1.1; omega)
  obtain ⟨⟨⟨w1, w2, w3, w4, w5, w6, w7⟩, w8⟩, ⟨w9, w10⟩, wS, wz, wH, wy, wI⟩ := id wx
  have wcl := hw.c_le
  obtain ⟨x1, x2⟩ := hx
  obtain ⟨k1, k2⟩ := hk
  have hwH : ∀ i, i < X.2.2.2.1.2 → wf 216 (X.2.2.2.1.1 i) := fun i hi => (wH i hi).1.up (by have := (wH i hi).1.1; omega)
  have hk1 := m_keeps (l := l) (sz := sz) hH hP hw hY hwH wy
  refine qC.of 0 (by decide) (le_b rfl) ?_
  refine qV_aload_n (pc := 0) 0 dX7_edits_0 rfl rfl ?_
  refine qV_iload_n (pc := 1) 1 dX7_edits_1 rfl rfl ?_
  refine qV_iload_n (pc := 2) 2 dX7_edits_2 rfl rfl ?_
  refine qV_rdV (pc := 3) (m_isEdit ⟨x1, x2⟩ ⟨k1, k2⟩ ho c1 hP hw) nX7_isEdit kX7 lk_X7_72 dX7_edits_3 (by first | assumption | exact hU_self _ _ _ | (refine (hU_ne (by omega)).trans ?_; first | assumption | exact hU_self _ _ _ | (refine (hU_ne (by omega)).trans ?_; first | assumption | exact hU_self _ _ _ | (refine (hU_ne (by omega)).trans ?_; first | assumption | exact hU_self _ _ _)))) ⟨le_b rfl, le_b rfl⟩ ⟨le_b rfl, le_b rfl⟩ rfl (le_b rfl) ?_
  refine qV_ifneB (pc := 6) 11 dX7_edits_6 (by decide) (fun c6 => ?_) (fun c6 => ?_)
  · refine qV_aload_n (pc := 11) 0 dX7_edits_11 rfl rfl ?_
    refine qV_get (pc := 12) kX7 11 (le_b rfl) lk_X7_76 rfl dX7_edits_12 (by first | assumption | exact hU_self _ _ _ | (refine (hU_ne (by omega)).trans ?_; first | assumption | exact hU_self _ _ _ | (refine (hU_ne (by omega)).trans ?_; first | assumption | exact hU_self _ _ _ | (refine (hU_ne (by omega)).trans ?_; first | assumption | exact hU_self _ _ _)))) (by exact rfl) ?_
    refine qV_ifle (pc := 15) 21 dX7_edits_15 (by decide) ⟨by omega, by omega⟩ (fun c15 => ?_) (fun c15 => ?_)
    · refine qV_aload_n (pc := 21) 0 dX7_edits_21 rfl rfl ?_
      refine qV_get (pc := 22) kX7 0 (le_b rfl) lk_X7_7 rfl dX7_edits_22 (by first | assumption | exact hU_self _ _ _ | (refine (hU_ne (by omega)).trans ?_; first | assumption | exact hU_self _ _ _ | (refine (hU_ne (by omega)).trans ?_; first | assumption | exact hU_self _ _ _ | (refine (hU_ne (by omega)).trans ?_; first | assumption | exact hU_self _ _ _)))) (by exact rfl) ?_
      refine qV_iconst (pc := 25) dX7_edits_25 ?_
      refine qV_ialdN (pc := 26) (0) dX7_edits_26 (by first | assumption | exact hU_self _ _ _ | (refine (hU_ne (by omega)).trans ?_; first | assumption | exact hU_self _ _ _ | (refine (hU_ne (by omega)).trans ?_; first | assumption | exact hU_self _ _ _ | (refine (hU_ne (by omega)).trans ?_; first | assumption | exact hU_self _ _ _)))) (by omega) (by omega) p0 ?_
      refine qV_iload_n (pc := 27) 2 dX7_edits_27 rfl rfl ?_
      refine qV_isub (pc := 28) dX7_edits_28 ?_
      refine qV_aload_n (pc := 29) 0 dX7_edits_29 rfl rfl ?_
      refine qV_get (pc := 30) kX7 6 (le_b rfl) lk_X7_65 rfl dX7_edits_30 (by first | assumption | exact hU_self _ _ _ | (refine (hU_ne (by omega)).trans ?_; first | assumption | exact hU_self _ _ _ | (refine (hU_ne (by omega)).trans ?_; first | assumption | exact hU_self _ _ _ | (refine (hU_ne (by omega)).trans ?_; first | assumption | exact hU_self _ _ _)))) (by exact rfl) ?_
      refine qV_iadd (pc := 33) dX7_edits_33 ?_
      refine qV_bipush (pc := 34) dX7_edits_34 rfl ?_
      refine qV_icmp_le (pc := 36) 42 dX7_edits_36 (by decide) ⟨by omega, by omega⟩ ⟨by omega, by omega⟩ (fun c36 => ?_) (fun c36 => ?_)
      · have e0 : oEdits X x k = ((X.1.1 : Int) - k + X.2.1.1, (edP X.1 x.toNat k.toNat X.2.1.1 X.2.1.2, (0, X.2.1.2), X.2.2.1, (pushH X.2.2.2.1.1 X.1, min (X.2.2.2.1.2 + 1) 8), X.2.2.2.2)) := (if_neg (by simp only [isSt]; omega)).trans ((if_neg (by omega)).trans (if_neg (by omega)))
        have e9 := ed_n (P := X.1) (p := x.toNat) (k := k.toNat) (m := X.2.1.1) (W := X.2.1.2)
        refine qV_aload_n (pc := 42) 0 dX7_edits_42 rfl rfl ?_
        refine qV_voV (pc := 43) (hk1) nX7_keeps kX7 lk_X7_79 dX7_edits_43 (by first | assumption | exact hU_self _ _ _ | (refine (hU_ne (by omega)).trans ?_; first | assumption | exact hU_self _ _ _ | (refine (hU_ne (by omega)).trans ?_; first | assumption | exact hU_self _ _ _ | (refine (hU_ne (by omega)).trans ?_; first | assumption | exact hU_self _ _ _)))) ⟨le_b rfl, le_b rfl⟩ ⟨le_b rfl, le_b rfl⟩ rfl (le_b rfl) ?_
        rintro h2 sz2 ⟨⟨pa2, hH2, hY2⟩, f2, rfl⟩
        obtain ⟨ho2, d1, d2, d3, d4, d5, d6, d7, d8, d9⟩ := id hH2
        have hed := m_edit (l := l) (sz := sz2) (W := X.2.1.2) (i := x.toNat) (k := k.toNat) (m := X.2.1.1) (a := 0) (p := x) (q := k) (x := 0) (y := X.2.1.1) ho2 d1 hP hw d5 (by omega) (by omega) (by omega) rfl rfl ⟨by omega, by omega⟩ (fun j hj => by rw [Nat.zero_add]; exact hT j hj) (by omega) w9 (by omega)
        refine qV_aload_n (pc := 46) 0 dX7_edits_46 rfl rfl ?_
        refine qV_iload_n (pc := 47) 1 dX7_edits_47 rfl rfl ?_
        refine qV_iload_n (pc := 48) 2 dX7_edits_48 rfl rfl ?_
        refine qV_aload_n (pc := 49) 0 dX7_edits_49 rfl rfl ?_
        refine qV_get (pc := 50) kX7 5 (le_b rfl) lk_X7_23 rfl dX7_edits_50 (by first | assumption | exact hU_self _ _ _ | (refine (hU_ne (by omega)).trans ?_; first | assumption | exact hU_self _ _ _ | (refine (hU_ne (by omega)).trans ?_; first | assumption | exact hU_self _ _ _ | (refine (hU_ne (by omega)).trans ?_; first | assumption | exact hU_self _ _ _)))) (by exact rfl) ?_
        refine qV_iconst (pc := 53) dX7_edits_53 ?_
        refine qV_aload_n (pc := 54) 0 dX7_edits_54 rfl rfl ?_
        refine qV_get (pc := 55) kX7 6 (le_b rfl) lk_X7_65 rfl dX7_edits_55 (by first | assumption | exact hU_self _ _ _ | (refine (hU_ne (by omega)).trans ?_; first | assumption | exact hU_self _ _ _ | (refine (hU_ne (by omega)).trans ?_; first | assumption | exact hU_self _ _ _ | (refine (hU_ne (by omega)).trans ?_; first | assumption | exact hU_self _ _ _)))) (by exact rfl) ?_
        refine qV_voV (pc := 58) (hed) nX7_edit kX7 lk_X7_82 dX7_edits_58 (by first | assumption | exact hU_self _ _ _ | (refine (hU_ne (by omega)).trans ?_; first | assumption | exact hU_self _ _ _ | (refine (hU_ne (by omega)).trans ?_; first | assumption | exact hU_self _ _ _ | (refine (hU_ne (by omega)).trans ?_; first | assumption | exact hU_self _ _ _)))) ⟨le_b rfl, le_b rfl⟩ ⟨le_b rfl, le_b rfl⟩ rfl (le_b rfl) ?_
        rintro h3 sz3 ⟨⟨g, rfl, hSg⟩, rfl⟩
        have eg0 := hSg.1
        refine qV_aload_n (pc := 61) 0 dX7_edits_61 rfl rfl ?_
        refine qV_iconst (pc := 62) dX7_edits_62 ?_
        refine qV_put (pc := 63) kX7 6 (le_b rfl) lk_X7_65 rfl rfl rfl rfl dX7_edits_63 (by first | assumption | exact hU_self _ _ _ | (refine (hU_ne (by omega)).trans ?_; first | assumption | exact hU_self _ _ _ | (refine (hU_ne (by omega)).trans ?_; first | assumption | exact hU_self _ _ _ | (refine (hU_ne (by omega)).trans ?_; first | assumption | exact hU_self _ _ _)))) (by exact le_b rfl) ?_
        refine qV_aload_n (pc := 66) 0 dX7_edits_66 rfl rfl ?_
        refine qV_get (pc := 67) kX7 0 (le_b rfl) lk_X7_7 rfl dX7_edits_67 (by first | assumption | exact hU_self _ _ _ | (refine (hU_ne (by omega)).trans ?_; first | assumption | exact hU_self _ _ _ | (refine (hU_ne (by omega)).trans ?_; first | assumption | exact hU_self _ _ _ | (refine (hU_ne (by omega)).trans ?_; first | assumption | exact hU_self _ _ _)))) (by exact rfl) ?_
        refine qV_iconst (pc := 70) dX7_edits_70 ?_
        refine qV_ialdN (pc := 71) (0) dX7_edits_71 (by first | assumption | exact hU_self _ _ _ | (refine (hU_ne (by omega)).trans ?_; first | assumption | exact hU_self _ _ _ | (refine (hU_ne (by omega)).trans ?_; first | assumption | exact hU_self _ _ _ | (refine (hU_ne (by omega)).trans ?_; first | assumption | exact hU_self _ _ _)))) (by omega) (by omega) eg0 ?_
        refine qV_iret (pc := 72) dX7_edits_72 rfl (le_b rfl) (le_b rfl) ?_
        refine ⟨_, rfl, ?_, ?_, f2.trans (fun q hq => by repeat (first | with_reducible rfl | refine (hU_ne (by omega)).trans ?_)), rfl⟩
        · rw [e0, e9]
          simp only []
          rw [show ((X.1.1 - k.toNat + X.2.1.1 : Nat) : Int) = (X.1.1 : Int) - k + X.2.1.1 by omega]
        · rw [e0]
          exact ⟨g, pa2, im, kp, ta, pl, tk, tp, td, ⟨(by repeat (first | assumption | exact hU_self _ _ _ | refine (hU_ne (by omega)).trans ?_)), (by repeat (first | assumption | exact hU_self _ _ _ | refine (hU_ne (by omega)).trans ?_)), (by repeat (first | assumption | exact hU_self _ _ _ | refine (hU_ne (by omega)).trans ?_)), (by repeat (first | assumption | exact hU_self _ _ _ | refine (hU_ne (by omega)).trans ?_)), (by repeat (first | assumption | exact hU_self _ _ _ | refine (hU_ne (by omega)).trans ?_)), (by repeat (first | assumption | exact hU_self _ _ _ | refine (hU_ne (by omega)).trans ?_)), (by repeat (first | assumption | exact hU_self _ _ _ | refine (hU_ne (by omega)).trans ?_)), (by repeat (first | assumption | exact hU_self _ _ _ | refine (hU_ne (by omega)).trans ?_)), (by repeat (first | assumption | exact hU_self _ _ _ | refine (hU_ne (by omega)).trans ?_)), (by repeat (first | assumption | exact hU_self _ _ _ | refine (hU_ne (by omega)).trans ?_))⟩, hSg, hY2, hI, fun j hj => absurd hj (Nat.not_lt_zero j), hZ⟩
      · have e0 : oEdits X x k = (-3, X) := (if_neg (by simp only [isSt]; omega)).trans ((if_neg (by omega)).trans (if_pos (by omega)))
        refine qV_bipush (pc := 39) dX7_edits_39 rfl ?_
        refine qV_iret (pc := 41) dX7_edits_41 rfl (le_b rfl) (le_b rfl) ?_
        exact ⟨_, rfl, by rw [e0], by rw [e0]; exact hR, Fr.rf, rfl⟩
    · have e0 : oEdits X x k = (-2, X) := (if_neg (by simp only [isSt]; omega)).trans (if_pos (by omega))
      refine qV_bipush (pc := 18) dX7_edits_18 rfl ?_
      refine qV_iret (pc := 20) dX7_edits_20 rfl (le_b rfl) (le_b rfl) ?_
      exact ⟨_, rfl, by rw [e0], by rw [e0]; exact hR, Fr.rf, rfl⟩
  · have e0 : oEdits X x k = (-1, X) := if_pos (by simp only [isSt]; omega)
    refine qV_iconst (pc := 9) dX7_edits_9 ?_
    refine qV_iret (pc := 10) dX7_edits_10 rfl (le_b rfl) (le_b rfl) ?_
    exact ⟨_, rfl, by rw [e0], by rw [e0]; exact hR, Fr.rf, rfl⟩
end REF5
