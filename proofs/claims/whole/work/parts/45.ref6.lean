/-! ===== the reference: pieces that wait ===== -/
theorem grw_ins {S : Nat → ED} {p : Nat} {E : ED} : ∀ d, grw (insS S p E) (p + d + 1) = grw S (p + d) + ((E.2.2.1 : Int) - (E.2.1 : Int))
  | 0 => by
    have h1 : ∀ m, m ≤ p → grw (insS S p E) m = grw S m := by
      intro m
      induction m with
      | zero => intro _; rfl
      | succ m ih =>
        intro hm
        simp only [grw]
        rw [ih (by omega)]
        simp only [insS]
        rw [if_pos (by omega)]
    show grw (insS S p E) (p + 1) = _
    simp only [grw]
    rw [h1 p (Nat.le_refl p)]
    simp only [insS]
    rw [if_neg (by omega), if_pos trivial]
    rfl
  | d + 1 => by
    have ih := grw_ins (S := S) (p := p) (E := E) d
    show grw (insS S p E) (p + d + 1 + 1) = grw S (p + d + 1) + _
    simp only [grw] at ih ⊢
    rw [ih]
    have e : insS S p E (p + d + 1) = S (p + d) := by
      simp only [insS]
      rw [if_neg (by omega), if_neg (by omega), show p + d + 1 - 1 = p + d by omega]
    rw [e]
    omega
theorem grw_in {S : Nat → ED} : ∀ {z : Nat}, (∀ i, i < z → (S i).2.2.1 ≤ 24 ∧ (S i).2.1 ≤ 120) → -(120 * (z : Int)) ≤ grw S z ∧ grw S z ≤ 24 * (z : Int)
  | 0, _ => by simp [grw]
  | z + 1, h => by
    have ih := grw_in (z := z) (fun i hi => h i (by omega))
    have := h z (by omega)
    simp only [grw]
    omega
theorem RStg.ins {pl tk tp td pl' tk' tp' td' : Nat → Int} {S : Nat → ED} {z p : Nat} {E : ED} (hZ : RStg pl tk tp td S z) (hp : p ≤ z) (hc : ∀ j, j < z → (S j).2.2.1 ≤ 24) (a1 : ∀ i, i < z → pl' i = pl i) (a2 : ∀ i, i < z → tk' i = tk i) (a3 : ∀ i, i < z → td' i = td i) (a4 : ∀ q, q < 24 * z → tp' q = tp q) (hr : rowE pl' tk' tp' td' z E) : RStg pl' tk' tp' td' (insS S p E) (z + 1) := by
  have hk : ∀ i j, i < z → j < z → rowE pl tk tp td i (S j) → rowE pl' tk' tp' td' i (S j) := fun i j hi hj ⟨r1, r2, r3, r4⟩ => ⟨(a1 i hi).trans r1, (a2 i hi).trans r2, (a3 i hi).trans r3, fun t ht => (a4 _ (by have := hc j hj; omega)).trans (r4 t ht)⟩
  refine ⟨fun i hi => ?_, fun j hj => ?_, ?_⟩
  · by_cases e : i = z
    · subst e
      refine ⟨p, by omega, ?_⟩
      simp only [insS]
      rw [if_neg (by omega), if_pos trivial]
      exact hr
    · obtain ⟨j, hj, r⟩ := hZ.1 i (by omega)
      by_cases e2 : j < p
      · refine ⟨j, by omega, ?_⟩
        simp only [insS]
        rw [if_pos e2]
        exact hk i j (by omega) hj r
      · refine ⟨j + 1, by omega, ?_⟩
        simp only [insS]
        rw [if_neg (by omega), if_neg (by omega), show j + 1 - 1 = j by omega]
        exact hk i j (by omega) hj r
  · simp only [insS]
    by_cases e : j < p
    · rw [if_pos e]
      obtain ⟨i, hi, r⟩ := hZ.2.1 j (by omega)
      exact ⟨i, by omega, hk i j hi (by omega) r⟩
    · rw [if_neg e]
      by_cases e2 : j = p
      · rw [if_pos e2]
        exact ⟨z, by omega, hr⟩
      · rw [if_neg e2]
        obtain ⟨i, hi, r⟩ := hZ.2.1 (j - 1) (by omega)
        exact ⟨i, by omega, hk i (j - 1) hi (by omega) r⟩
  · have e1 := grw_ins (S := S) (p := p) (E := E) (z - p)
    rw [show p + (z - p) = z by omega] at e1
    rw [e1, csum_succ, ← hZ.2.2]
    have e2 : csum (fun i => td' i - tk' i) z = csum (fun i => td i - tk i) z := csum_congr (fun j hj => by rw [a3 j hj, a2 j hj])
    rw [e2, hr.2.1, hr.2.2.1]
def dInv (pl : Nat → Int) (A : Int) (i : Nat) (w : Int) : Prop := (w = -1 ∧ ∀ t, t < i → A ≤ pl t) ∨ ∃ u : Nat, u < i ∧ w = u ∧ pl u < A ∧ ∀ t, t < i → pl t < A → pl t ≤ pl u
section REF6
variable {l : Launch} {h : qH} {sz r : Nat} {X : XS}
set_option maxRecDepth 100000 in
set_option maxHeartbeats 4000000 in
theorem stages1 {x k kn ty : Int} {z n : Nat} {S : Nat → ED} {pl tk tp td : Nat → Int} {h0 : qH} {Q : Option Value → qH → Nat → Prop} (ho : h r = some (rob r kn ty z)) (c6 : h (r + 6) = some (iA 0 4 pl)) (c7 : h (r + 7) = some (iA 0 4 tk)) (hZ : RStg pl tk tp td S z) (hS : okS S z n) (hn : n ≤ 120) (hz4 : z ≤ 4) (hx : 0 ≤ x ∧ x ≤ 120) (hk : 0 ≤ k ∧ k ≤ 120)
    (kt : tch S x k z = true → Q (some (vI (-2))) h sz)
    (kk : ∀ (x3 : Option Value), ¬ tch S x k z = true → qVM l mX7_stages 0 0 h0 sz Q 0 0 h sz 59 [some (.ref r), some (vI x), some (vI k), x3] []) :
    ∀ (d i : Nat) (q : Int), z - i = d → i ≤ z → q = i → (∀ t, t < i → ¬ (pl t ≤ x + k ∧ x ≤ pl t + tk t)) → qVM l mX7_stages 0 0 h0 sz Q 0 0 h sz 13 [some (.ref r), some (vI x), some (vI k), some (vI q)] [] := by
  intro d
  induction d with
  | zero =>
    intro i q hd hi hq hin
    obtain rfl : i = z := by omega
    have hnt : ¬ tch S x k i = true := fun ht => by
      obtain ⟨j, hj, m1⟩ := (tch_iff S x k i).mp ht
      obtain ⟨t, ht, r1, r2, -, -⟩ := hZ.2.1 j hj
      exact hin t ht (by rw [r1, r2]; exact m1)
    refine qV_iload_n (pc := 13) 3 dX7_stages_13 rfl rfl ?_
    refine qV_aload_n (pc := 14) 0 dX7_stages_14 rfl rfl ?_
    refine qV_get (pc := 15) kX7 11 (le_b rfl) lk_X7_76 rfl dX7_stages_15 (by first | assumption | exact hU_self _ _ _ | (refine (hU_ne (by omega)).trans ?_; first | assumption | exact hU_self _ _ _ | (refine (hU_ne (by omega)).trans ?_; first | assumption | exact hU_self _ _ _ | (refine (hU_ne (by omega)).trans ?_; first | assumption | exact hU_self _ _ _)))) (by exact rfl) ?_
    refine qV_icmp_ge (pc := 18) 59 dX7_stages_18 (by decide) ⟨by omega, by omega⟩ ⟨by omega, by omega⟩ (fun c18 => ?_) (fun c18 => ?_)
    · exact kk _ hnt
    · exfalso; omega
  | succ d ih =>
    intro i q hd hi hq hin
    obtain ⟨j, hj, r1, r2, r3, r4⟩ := hZ.1 i (by omega)
    have b := hS.2.2 j hj
    refine qV_iload_n (pc := 13) 3 dX7_stages_13 rfl rfl ?_
    refine qV_aload_n (pc := 14) 0 dX7_stages_14 rfl rfl ?_
    refine qV_get (pc := 15) kX7 11 (le_b rfl) lk_X7_76 rfl dX7_stages_15 (by first | assumption | exact hU_self _ _ _ | (refine (hU_ne (by omega)).trans ?_; first | assumption | exact hU_self _ _ _ | (refine (hU_ne (by omega)).trans ?_; first | assumption | exact hU_self _ _ _ | (refine (hU_ne (by omega)).trans ?_; first | assumption | exact hU_self _ _ _)))) (by exact rfl) ?_
    refine qV_icmp_ge (pc := 18) 59 dX7_stages_18 (by decide) ⟨by omega, by omega⟩ ⟨by omega, by omega⟩ (fun c18 => ?_) (fun c18 => ?_)
    · exfalso; omega
    · refine qV_iload_n (pc := 21) 1 dX7_stages_21 rfl rfl ?_
      refine qV_aload_n (pc := 22) 0 dX7_stages_22 rfl rfl ?_
      refine qV_get (pc := 23) kX7 7 (le_b rfl) lk_X7_26 rfl dX7_stages_23 (by first | assumption | exact hU_self _ _ _ | (refine (hU_ne (by omega)).trans ?_; first | assumption | exact hU_self _ _ _ | (refine (hU_ne (by omega)).trans ?_; first | assumption | exact hU_self _ _ _ | (refine (hU_ne (by omega)).trans ?_; first | assumption | exact hU_self _ _ _)))) (by exact rfl) ?_
      refine qV_iload_n (pc := 26) 3 dX7_stages_26 rfl rfl ?_
      refine qV_ialdN (pc := 27) (i) dX7_stages_27 (by first | assumption | exact hU_self _ _ _ | (refine (hU_ne (by omega)).trans ?_; first | assumption | exact hU_self _ _ _ | (refine (hU_ne (by omega)).trans ?_; first | assumption | exact hU_self _ _ _ | (refine (hU_ne (by omega)).trans ?_; first | assumption | exact hU_self _ _ _)))) (by omega) (by omega) r1 ?_
      refine qV_aload_n (pc := 28) 0 dX7_stages_28 rfl rfl ?_
      refine qV_get (pc := 29) kX7 8 (le_b rfl) lk_X7_29 rfl dX7_stages_29 (by first | assumption | exact hU_self _ _ _ | (refine (hU_ne (by omega)).trans ?_; first | assumption | exact hU_self _ _ _ | (refine (hU_ne (by omega)).trans ?_; first | assumption | exact hU_self _ _ _ | (refine (hU_ne (by omega)).trans ?_; first | assumption | exact hU_self _ _ _)))) (by exact rfl) ?_
      refine qV_iload_n (pc := 32) 3 dX7_stages_32 rfl rfl ?_
      refine qV_ialdN (pc := 33) (i) dX7_stages_33 (by first | assumption | exact hU_self _ _ _ | (refine (hU_ne (by omega)).trans ?_; first | assumption | exact hU_self _ _ _ | (refine (hU_ne (by omega)).trans ?_; first | assumption | exact hU_self _ _ _ | (refine (hU_ne (by omega)).trans ?_; first | assumption | exact hU_self _ _ _)))) (by omega) (by omega) r2 ?_
      refine qV_iadd (pc := 34) dX7_stages_34 ?_
      refine qV_icmp_gt (pc := 35) 53 dX7_stages_35 (by decide) ⟨by omega, by omega⟩ ⟨by omega, by omega⟩ (fun c35 => ?_) (fun c35 => ?_)
      · refine qV_iinc (pc := 53) 3 dX7_stages_53 rfl (le_b rfl) (le_b rfl) rfl ?_
        refine qV_goto (pc := 56) 13 dX7_stages_56 (by decide) ?_
        refine ih (i + 1) _ (by omega) (by omega) (by omega) (fun t ht => ?_)
        by_cases e : t = i
        · subst e; rw [r1, r2]; omega
        · exact hin t (by omega)
      · refine qV_aload_n (pc := 38) 0 dX7_stages_38 rfl rfl ?_
        refine qV_get (pc := 39) kX7 7 (le_b rfl) lk_X7_26 rfl dX7_stages_39 (by first | assumption | exact hU_self _ _ _ | (refine (hU_ne (by omega)).trans ?_; first | assumption | exact hU_self _ _ _ | (refine (hU_ne (by omega)).trans ?_; first | assumption | exact hU_self _ _ _ | (refine (hU_ne (by omega)).trans ?_; first | assumption | exact hU_self _ _ _)))) (by exact rfl) ?_
        refine qV_iload_n (pc := 42) 3 dX7_stages_42 rfl rfl ?_
        refine qV_ialdN (pc := 43) (i) dX7_stages_43 (by first | assumption | exact hU_self _ _ _ | (refine (hU_ne (by omega)).trans ?_; first | assumption | exact hU_self _ _ _ | (refine (hU_ne (by omega)).trans ?_; first | assumption | exact hU_self _ _ _ | (refine (hU_ne (by omega)).trans ?_; first | assumption | exact hU_self _ _ _)))) (by omega) (by omega) r1 ?_
        refine qV_iload_n (pc := 44) 1 dX7_stages_44 rfl rfl ?_
        refine qV_iload_n (pc := 45) 2 dX7_stages_45 rfl rfl ?_
        refine qV_iadd (pc := 46) dX7_stages_46 ?_
        refine qV_icmp_gt (pc := 47) 53 dX7_stages_47 (by decide) ⟨by omega, by omega⟩ ⟨by omega, by omega⟩ (fun c47 => ?_) (fun c47 => ?_)
        · refine qV_iinc (pc := 53) 3 dX7_stages_53 rfl (le_b rfl) (le_b rfl) rfl ?_
          refine qV_goto (pc := 56) 13 dX7_stages_56 (by decide) ?_
          refine ih (i + 1) _ (by omega) (by omega) (by omega) (fun t ht => ?_)
          by_cases e : t = i
          · subst e; rw [r1, r2]; omega
          · exact hin t (by omega)
        · refine qV_bipush (pc := 50) dX7_stages_50 rfl ?_
          refine qV_iret (pc := 52) dX7_stages_52 rfl (le_b rfl) (le_b rfl) ?_
          exact kt ((tch_iff S x k z).mpr ⟨j, hj, by simp only [mts]; omega⟩)
set_option maxRecDepth 100000 in
set_option maxHeartbeats 4000000 in
theorem stages2 {kn ty st : Int} {z m : Nat} {ta tp : Nat → Int} {h0 : qH} {x1 x2 : Int} {Q : Option Value → qH → Nat → Prop} (ho : h r = some (rob r kn ty st)) (c5 : h (r + 5) = some (iA 0 24 ta)) (hty : ty = m) (hst : st = z) (hm : m ≤ 24) (hz : z < 4)
    (kk : ∀ (g : Nat → Int) (x3 : Option Value), (∀ j, j < m → g (24 * z + j) = ta j) → (∀ q, q < 24 * z → g q = tp q) → qVM l mX7_stages 0 0 h0 sz Q 0 0 (hU h (r + 8) (iA 0 96 g)) sz 126 [some (.ref r), some (vI x1), some (vI x2), x3] []) :
    ∀ (d v : Nat) (q : Int) (g : Nat → Int), m - v = d → v ≤ m → q = v → (∀ j, j < v → g (24 * z + j) = ta j) → (∀ q, q < 24 * z → g q = tp q) → qVM l mX7_stages 0 0 h0 sz Q 0 0 (hU h (r + 8) (iA 0 96 g)) sz 92 [some (.ref r), some (vI x1), some (vI x2), some (vI q)] [] := by
  subst hty; subst hst
  intro d
  induction d with
  | zero =>
    intro v q g hd hv hq g1 g2
    obtain rfl : v = m := by omega
    refine qV_iload_n (pc := 92) 3 dX7_stages_92 rfl rfl ?_
    refine qV_aload_n (pc := 93) 0 dX7_stages_93 rfl rfl ?_
    refine qV_get (pc := 94) kX7 6 (le_b rfl) lk_X7_65 rfl dX7_stages_94 (by first | assumption | exact hU_self _ _ _ | (refine (hU_ne (by omega)).trans ?_; first | assumption | exact hU_self _ _ _ | (refine (hU_ne (by omega)).trans ?_; first | assumption | exact hU_self _ _ _ | (refine (hU_ne (by omega)).trans ?_; first | assumption | exact hU_self _ _ _)))) (by exact rfl) ?_
    refine qV_icmp_ge (pc := 97) 126 dX7_stages_97 (by decide) ⟨by omega, by omega⟩ ⟨by omega, by omega⟩ (fun c97 => ?_) (fun c97 => ?_)
    · exact kk g _ g1 g2
    · exfalso; omega
  | succ d ih =>
    intro v q g hd hv hq g1 g2
    refine qV_iload_n (pc := 92) 3 dX7_stages_92 rfl rfl ?_
    refine qV_aload_n (pc := 93) 0 dX7_stages_93 rfl rfl ?_
    refine qV_get (pc := 94) kX7 6 (le_b rfl) lk_X7_65 rfl dX7_stages_94 (by first | assumption | exact hU_self _ _ _ | (refine (hU_ne (by omega)).trans ?_; first | assumption | exact hU_self _ _ _ | (refine (hU_ne (by omega)).trans ?_; first | assumption | exact hU_self _ _ _ | (refine (hU_ne (by omega)).trans ?_; first | assumption | exact hU_self _ _ _)))) (by exact rfl) ?_
    refine qV_icmp_ge (pc := 97) 126 dX7_stages_97 (by decide) ⟨by omega, by omega⟩ ⟨by omega, by omega⟩ (fun c97 => ?_) (fun c97 => ?_)
    · exfalso; omega
    · refine qV_aload_n (pc := 100) 0 dX7_stages_100 rfl rfl ?_
      refine qV_get (pc := 101) kX7 9 (le_b rfl) lk_X7_32 rfl dX7_stages_101 (by first | assumption | exact hU_self _ _ _ | (refine (hU_ne (by omega)).trans ?_; first | assumption | exact hU_self _ _ _ | (refine (hU_ne (by omega)).trans ?_; first | assumption | exact hU_self _ _ _ | (refine (hU_ne (by omega)).trans ?_; first | assumption | exact hU_self _ _ _)))) (by exact rfl) ?_
      refine qV_bipush (pc := 104) dX7_stages_104 rfl ?_
      refine qV_aload_n (pc := 106) 0 dX7_stages_106 rfl rfl ?_
      refine qV_get (pc := 107) kX7 11 (le_b rfl) lk_X7_76 rfl dX7_stages_107 (by first | assumption | exact hU_self _ _ _ | (refine (hU_ne (by omega)).trans ?_; first | assumption | exact hU_self _ _ _ | (refine (hU_ne (by omega)).trans ?_; first | assumption | exact hU_self _ _ _ | (refine (hU_ne (by omega)).trans ?_; first | assumption | exact hU_self _ _ _)))) (by exact rfl) ?_
      refine qV_imul (pc := 110) dX7_stages_110 ?_
      refine qV_iload_n (pc := 111) 3 dX7_stages_111 rfl rfl ?_
      refine qV_iadd (pc := 112) dX7_stages_112 ?_
      refine qV_aload_n (pc := 113) 0 dX7_stages_113 rfl rfl ?_
      refine qV_get (pc := 114) kX7 5 (le_b rfl) lk_X7_23 rfl dX7_stages_114 (by first | assumption | exact hU_self _ _ _ | (refine (hU_ne (by omega)).trans ?_; first | assumption | exact hU_self _ _ _ | (refine (hU_ne (by omega)).trans ?_; first | assumption | exact hU_self _ _ _ | (refine (hU_ne (by omega)).trans ?_; first | assumption | exact hU_self _ _ _)))) (by exact rfl) ?_
      refine qV_iload_n (pc := 117) 3 dX7_stages_117 rfl rfl ?_
      refine qV_ialdN (pc := 118) (v) dX7_stages_118 (by first | assumption | exact hU_self _ _ _ | (refine (hU_ne (by omega)).trans ?_; first | assumption | exact hU_self _ _ _ | (refine (hU_ne (by omega)).trans ?_; first | assumption | exact hU_self _ _ _ | (refine (hU_ne (by omega)).trans ?_; first | assumption | exact hU_self _ _ _)))) (by omega) (by omega) rfl ?_
      refine qV_iastM (pc := 119) (24 * z + v) dX7_stages_119 (by omega) (by omega) ?_
      refine qV_iinc (pc := 120) 3 dX7_stages_120 rfl (le_b rfl) (le_b rfl) rfl ?_
      refine qV_goto (pc := 123) 92 dX7_stages_123 (by decide) ?_
      refine ih (v + 1) _ _ (by omega) (by omega) (by omega) (fun j hj => ?_) (fun q hq => ?_)
      · by_cases e : j = v
        · subst e; rw [va_up_self]
        · rw [va_up_ne _ _ (by omega)]; exact g1 j (by omega)
      · rw [va_up_ne _ _ (by omega)]; exact g2 q hq
set_option maxRecDepth 100000 in
set_option maxHeartbeats 4000000 in
theorem r_stages {x k : Int} (hx : iR x) (hk : iR k) (hR : RInv h r X) (wx : wfX X) : qRt l mX7_stages 0 0 [.ref r, vI x, vI k] h sz (fun w h' sz' => w = vI (oStages X x k).1 ∧ RInv h' r (oStages X x k).2 ∧ Fr h h' r (r + 10) ∧ sz' = sz) := by
  obtain ⟨s, pa, im, kp, ta, pl, tk, tp, td, hH, hP, hY, hI, hT, hZ⟩ := id hR
  obtain ⟨ho, c1, c2, c3, c4, c5, c6, c7, c8, c9⟩ := id hH
  obtain ⟨p0, p1, p2, pT, pC, pM⟩ := id hP
  have hw : wf 216 X.1 := wx.1.1.up (by have := wx.1.1.1; omega)
  obtain ⟨⟨⟨w1, w2, w3, w4, w5, w6, w7⟩, w8⟩, ⟨w9, w10⟩, wS, wz, wH, wy, wI⟩ := id wx
  have wcl := hw.c_le
  obtain ⟨x1, x2⟩ := hx
  obtain ⟨k1, k2⟩ := hk
  refine qC.of 1 (by decide) (le_b rfl) ?_
  refine qV_aload_n (pc := 0) 0 dX7_stages_0 rfl rfl ?_
  refine qV_iload_n (pc := 1) 1 dX7_stages_1 rfl rfl ?_
  refine qV_iload_n (pc := 2) 2 dX7_stages_2 rfl rfl ?_
  refine qV_rdV (pc := 3) (m_isEdit ⟨x1, x2⟩ ⟨k1, k2⟩ ho c1 hP hw) nX7_isEdit kX7 lk_X7_72 dX7_stages_3 (by repeat (first | assumption | exact hU_self _ _ _ | refine (hU_ne (by omega)).trans ?_)) ⟨le_b rfl, le_b rfl⟩ ⟨le_b rfl, le_b rfl⟩ rfl (le_b rfl) ?_
  refine qV_ifneB (pc := 6) 11 dX7_stages_6 (by decide) (fun cc6 => ?_) (fun cc6 => ?_)
  · refine qV_iconst (pc := 11) dX7_stages_11 ?_
    refine qV_istore_n (pc := 12) 3 dX7_stages_12 rfl (le_b rfl) (le_b rfl) rfl ?_
    refine stages1 (n := X.1.1) (S := X.2.2.1.1) ho c6 c7 hZ wS w1 wz (by omega) (by omega) (fun ht => ?_) (fun x3 hnt => ?_) X.2.2.1.2 0 _ (by omega) (by omega) rfl (fun t ht => by omega)
    · have e0 : oStages X x k = (-2, X) := (if_neg (by simp only [isSt]; omega)).trans (if_pos ht)
      exact ⟨_, rfl, by rw [e0], by rw [e0]; exact hR, Fr.rf, rfl⟩
    refine qV_aload_n (pc := 59) 0 dX7_stages_59 rfl rfl ?_
    refine qV_get (pc := 60) kX7 11 (le_b rfl) lk_X7_76 rfl dX7_stages_60 (by repeat (first | assumption | exact hU_self _ _ _ | refine (hU_ne (by omega)).trans ?_)) (by exact rfl) ?_
    refine qV_iconst (pc := 63) dX7_stages_63 ?_
    refine qV_icmp_ne (pc := 64) 70 dX7_stages_64 (by decide) ⟨by omega, by omega⟩ ⟨by omega, by omega⟩ (fun c64 => ?_) (fun c64 => ?_)
    · have e0 : oStages X x k = (((X.2.2.1.2 : Nat) : Int) + 1, (X.1, (0, X.2.1.2), (insS X.2.2.1.1 (pos X.2.2.1.1 x X.2.2.1.2) (x.toNat, k.toNat, X.2.1.1, X.2.1.2), X.2.2.1.2 + 1), X.2.2.2)) := (if_neg (by simp only [isSt]; omega)).trans ((if_neg hnt).trans (if_neg (by omega)))
      refine qV_heap ?_ (hU_id c6).symm rfl
      refine qV_aload_n (pc := 70) 0 dX7_stages_70 rfl rfl ?_
      refine qV_get (pc := 71) kX7 7 (le_b rfl) lk_X7_26 rfl dX7_stages_71 (by repeat (first | assumption | exact hU_self _ _ _ | refine (hU_ne (by omega)).trans ?_)) (by exact rfl) ?_
      refine qV_aload_n (pc := 74) 0 dX7_stages_74 rfl rfl ?_
      refine qV_get (pc := 75) kX7 11 (le_b rfl) lk_X7_76 rfl dX7_stages_75 (by repeat (first | assumption | exact hU_self _ _ _ | refine (hU_ne (by omega)).trans ?_)) (by exact rfl) ?_
      refine qV_iload_n (pc := 78) 1 dX7_stages_78 rfl rfl ?_
      refine qV_iastM (pc := 79) (X.2.2.1.2) dX7_stages_79 (by omega) (by omega) ?_
      refine qV_heap ?_ (hU_id (show hU h (r + 6) (iA 0 4 (va_up pl X.2.2.1.2 x)) (r + 7) = some (iA 0 4 tk) from (hU_ne (by omega)).trans c7)).symm rfl
      refine qV_aload_n (pc := 80) 0 dX7_stages_80 rfl rfl ?_
      refine qV_get (pc := 81) kX7 8 (le_b rfl) lk_X7_29 rfl dX7_stages_81 (by repeat (first | assumption | exact hU_self _ _ _ | refine (hU_ne (by omega)).trans ?_)) (by exact rfl) ?_
      refine qV_aload_n (pc := 84) 0 dX7_stages_84 rfl rfl ?_
      refine qV_get (pc := 85) kX7 11 (le_b rfl) lk_X7_76 rfl dX7_stages_85 (by repeat (first | assumption | exact hU_self _ _ _ | refine (hU_ne (by omega)).trans ?_)) (by exact rfl) ?_
      refine qV_iload_n (pc := 88) 2 dX7_stages_88 rfl rfl ?_
      refine qV_iastM (pc := 89) (X.2.2.1.2) dX7_stages_89 (by omega) (by omega) ?_
      refine qV_iconst (pc := 90) dX7_stages_90 ?_
      refine qV_istore_n (pc := 91) 3 dX7_stages_91 rfl (le_b rfl) (le_b rfl) rfl ?_
      have o0 : (hU (hU h (r + 6) (iA 0 4 (va_up pl X.2.2.1.2 x))) (r + 7) (iA 0 4 (va_up tk X.2.2.1.2 k))) r = some (rob r X.2.2.2.1.2 X.2.1.1 X.2.2.1.2) := (by repeat (first | assumption | exact hU_self _ _ _ | refine (hU_ne (by omega)).trans ?_))
      have o5 : (hU (hU h (r + 6) (iA 0 4 (va_up pl X.2.2.1.2 x))) (r + 7) (iA 0 4 (va_up tk X.2.2.1.2 k))) (r + 5) = some (iA 0 24 ta) := (by repeat (first | assumption | exact hU_self _ _ _ | refine (hU_ne (by omega)).trans ?_))
      have o8 : (hU (hU h (r + 6) (iA 0 4 (va_up pl X.2.2.1.2 x))) (r + 7) (iA 0 4 (va_up tk X.2.2.1.2 k))) (r + 8) = some (iA 0 96 tp) := (by repeat (first | assumption | exact hU_self _ _ _ | refine (hU_ne (by omega)).trans ?_))
      refine qV_heap (h' := hU (hU (hU h (r + 6) (iA 0 4 (va_up pl X.2.2.1.2 x))) (r + 7) (iA 0 4 (va_up tk X.2.2.1.2 k))) (r + 8) (iA 0 96 tp)) ?_ (hU_id o8).symm rfl
      refine stages2 (z := X.2.2.1.2) (m := X.2.1.1) (ta := ta) (tp := tp) o0 o5 rfl rfl w9 (by omega) (fun g x3 g1 g2 => ?_) X.2.1.1 0 _ tp (by omega) (by omega) rfl (fun j hj => by omega) (fun _ _ => rfl)
      have o9 : hU (hU (hU h (r + 6) (iA 0 4 (va_up pl X.2.2.1.2 x))) (r + 7) (iA 0 4 (va_up tk X.2.2.1.2 k))) (r + 8) (iA 0 96 g) (r + 9) = some (iA 0 4 td) := (by repeat (first | assumption | exact hU_self _ _ _ | refine (hU_ne (by omega)).trans ?_))
      refine qV_heap (h' := hU (hU (hU (hU h (r + 6) (iA 0 4 (va_up pl X.2.2.1.2 x))) (r + 7) (iA 0 4 (va_up tk X.2.2.1.2 k))) (r + 8) (iA 0 96 g)) (r + 9) (iA 0 4 td)) ?_ (hU_id o9).symm rfl
      refine qV_aload_n (pc := 126) 0 dX7_stages_126 rfl rfl ?_
      refine qV_get (pc := 127) kX7 10 (le_b rfl) lk_X7_35 rfl dX7_stages_127 (by repeat (first | assumption | exact hU_self _ _ _ | refine (hU_ne (by omega)).trans ?_)) (by exact rfl) ?_
      refine qV_aload_n (pc := 130) 0 dX7_stages_130 rfl rfl ?_
      refine qV_get (pc := 131) kX7 11 (le_b rfl) lk_X7_76 rfl dX7_stages_131 (by repeat (first | assumption | exact hU_self _ _ _ | refine (hU_ne (by omega)).trans ?_)) (by exact rfl) ?_
      refine qV_aload_n (pc := 134) 0 dX7_stages_134 rfl rfl ?_
      refine qV_get (pc := 135) kX7 6 (le_b rfl) lk_X7_65 rfl dX7_stages_135 (by repeat (first | assumption | exact hU_self _ _ _ | refine (hU_ne (by omega)).trans ?_)) (by exact rfl) ?_
      refine qV_iastM (pc := 138) (X.2.2.1.2) dX7_stages_138 (by omega) (by omega) ?_
      refine qV_aload_n (pc := 139) 0 dX7_stages_139 rfl rfl ?_
      refine qV_iconst (pc := 140) dX7_stages_140 ?_
      refine qV_put (pc := 141) kX7 6 (le_b rfl) lk_X7_65 rfl rfl rfl rfl dX7_stages_141 (by repeat (first | assumption | exact hU_self _ _ _ | refine (hU_ne (by omega)).trans ?_)) (by exact le_b rfl) ?_
      refine qV_aload_n (pc := 144) 0 dX7_stages_144 rfl rfl ?_
      refine qV_dup (pc := 145) dX7_stages_145 rfl ?_
      refine qV_get (pc := 146) kX7 11 (le_b rfl) lk_X7_76 rfl dX7_stages_146 (by repeat (first | assumption | exact hU_self _ _ _ | refine (hU_ne (by omega)).trans ?_)) (by exact rfl) ?_
      refine qV_iconst (pc := 149) dX7_stages_149 ?_
      refine qV_iadd (pc := 150) dX7_stages_150 ?_
      refine qV_put (pc := 151) kX7 11 (le_b rfl) lk_X7_76 rfl rfl rfl rfl dX7_stages_151 (by repeat (first | assumption | exact hU_self _ _ _ | refine (hU_ne (by omega)).trans ?_)) (by exact le_b rfl) ?_
      refine qV_aload_n (pc := 154) 0 dX7_stages_154 rfl rfl ?_
      refine qV_get (pc := 155) kX7 11 (le_b rfl) lk_X7_76 rfl dX7_stages_155 (by repeat (first | assumption | exact hU_self _ _ _ | refine (hU_ne (by omega)).trans ?_)) (by exact rfl) ?_
      refine qV_iret (pc := 158) dX7_stages_158 rfl (le_b rfl) (le_b rfl) ?_
      refine ⟨_, rfl, by rw [e0], ?_, (fun q hq => by repeat (first | with_reducible rfl | refine (hU_ne (by omega)).trans ?_)), rfl⟩
      rw [e0]
      refine ⟨s, pa, im, kp, ta, va_up pl X.2.2.1.2 x, va_up tk X.2.2.1.2 k, g, va_up td X.2.2.1.2 X.2.1.1, RH.cast (st := (X.2.2.1.2 : Int) + 1) ⟨(by repeat (first | assumption | exact hU_self _ _ _ | refine (hU_ne (by omega)).trans ?_)), (by repeat (first | assumption | exact hU_self _ _ _ | refine (hU_ne (by omega)).trans ?_)), (by repeat (first | assumption | exact hU_self _ _ _ | refine (hU_ne (by omega)).trans ?_)), (by repeat (first | assumption | exact hU_self _ _ _ | refine (hU_ne (by omega)).trans ?_)), (by repeat (first | assumption | exact hU_self _ _ _ | refine (hU_ne (by omega)).trans ?_)), (by repeat (first | assumption | exact hU_self _ _ _ | refine (hU_ne (by omega)).trans ?_)), (by repeat (first | assumption | exact hU_self _ _ _ | refine (hU_ne (by omega)).trans ?_)), (by repeat (first | assumption | exact hU_self _ _ _ | refine (hU_ne (by omega)).trans ?_)), (by repeat (first | assumption | exact hU_self _ _ _ | refine (hU_ne (by omega)).trans ?_)), (by repeat (first | assumption | exact hU_self _ _ _ | refine (hU_ne (by omega)).trans ?_))⟩ rfl rfl (by simp only []; omega), hP, hY, hI, fun j hj => absurd hj (Nat.not_lt_zero j), ?_⟩
      refine hZ.ins (pos_le _ _ _) (fun j hj => (wS.1 j hj).1) (fun i hi => va_up_ne _ _ (by omega)) (fun i hi => va_up_ne _ _ (by omega)) (fun i hi => va_up_ne _ _ (by omega)) g2 ⟨?_, ?_, ?_, fun j hj => ?_⟩
      · rw [va_up_self]; simp only []; omega
      · rw [va_up_self]; simp only []; omega
      · rw [va_up_self]
      · exact (g1 j hj).trans (hT j hj)
    · have e0 : oStages X x k = (-3, X) := (if_neg (by simp only [isSt]; omega)).trans ((if_neg hnt).trans (if_pos (by omega)))
      refine qV_bipush (pc := 67) dX7_stages_67 rfl ?_
      refine qV_iret (pc := 69) dX7_stages_69 rfl (le_b rfl) (le_b rfl) ?_
      exact ⟨_, rfl, by rw [e0], by rw [e0]; exact hR, Fr.rf, rfl⟩
  · have e0 : oStages X x k = (-1, X) := if_pos (by simp only [isSt]; omega)
    refine qV_iconst (pc := 9) dX7_stages_9 ?_
    refine qV_iret (pc := 10) dX7_stages_10 rfl (le_b rfl) (le_b rfl) ?_
    exact ⟨_, rfl, by rw [e0], by rw [e0]; exact hR, Fr.rf, rfl⟩
set_option maxRecDepth 100000 in
set_option maxHeartbeats 4000000 in
theorem does1 {kn ty : Int} {z n : Nat} {tk td : Nat → Int} {h0 : qH} {x3 x4 x5 : Option Value} {Q : Option Value → qH → Nat → Prop} (ho : h r = some (rob r kn ty z)) (c7 : h (r + 7) = some (iA 0 4 tk)) (c9 : h (r + 9) = some (iA 0 4 td)) (hz4 : z ≤ 4)
    (kk : ∀ (x2 : Option Value), qVM l mX7_does 0 0 h0 sz Q 0 0 h sz 49 [some (.ref r), some (vI ((n : Int) + csum (fun i => td i - tk i) z)), x2, x3, x4, x5] []) :
    ∀ (d i : Nat) (q a : Int), z - i = d → i ≤ z → q = i → a = (n : Int) + csum (fun i => td i - tk i) i → qVM l mX7_does 0 0 h0 sz Q 0 0 h sz 19 [some (.ref r), some (vI a), some (vI q), x3, x4, x5] [] := by
  intro d
  induction d with
  | zero =>
    intro i q a hd hi hq ha
    obtain rfl : i = z := by omega
    subst ha
    refine qV_iload_n (pc := 19) 2 dX7_does_19 rfl rfl ?_
    refine qV_aload_n (pc := 20) 0 dX7_does_20 rfl rfl ?_
    refine qV_get (pc := 21) kX7 11 (le_b rfl) lk_X7_76 rfl dX7_does_21 (by first | assumption | exact hU_self _ _ _ | (refine (hU_ne (by omega)).trans ?_; first | assumption | exact hU_self _ _ _ | (refine (hU_ne (by omega)).trans ?_; first | assumption | exact hU_self _ _ _ | (refine (hU_ne (by omega)).trans ?_; first | assumption | exact hU_self _ _ _)))) (by exact rfl) ?_
    refine qV_icmp_ge (pc := 24) 49 dX7_does_24 (by decide) ⟨by omega, by omega⟩ ⟨by omega, by omega⟩ (fun c24 => ?_) (fun c24 => ?_)
    · exact kk _
    · exfalso; omega
  | succ d ih =>
    intro i q a hd hi hq ha
    have e1 : csum (fun i => td i - tk i) (i + 1) = csum (fun i => td i - tk i) i + (td i - tk i) := rfl
    refine qV_iload_n (pc := 19) 2 dX7_does_19 rfl rfl ?_
    refine qV_aload_n (pc := 20) 0 dX7_does_20 rfl rfl ?_
    refine qV_get (pc := 21) kX7 11 (le_b rfl) lk_X7_76 rfl dX7_does_21 (by first | assumption | exact hU_self _ _ _ | (refine (hU_ne (by omega)).trans ?_; first | assumption | exact hU_self _ _ _ | (refine (hU_ne (by omega)).trans ?_; first | assumption | exact hU_self _ _ _ | (refine (hU_ne (by omega)).trans ?_; first | assumption | exact hU_self _ _ _)))) (by exact rfl) ?_
    refine qV_icmp_ge (pc := 24) 49 dX7_does_24 (by decide) ⟨by omega, by omega⟩ ⟨by omega, by omega⟩ (fun c24 => ?_) (fun c24 => ?_)
    · exfalso; omega
    · refine qV_iload_n (pc := 27) 1 dX7_does_27 rfl rfl ?_
      refine qV_aload_n (pc := 28) 0 dX7_does_28 rfl rfl ?_
      refine qV_get (pc := 29) kX7 10 (le_b rfl) lk_X7_35 rfl dX7_does_29 (by first | assumption | exact hU_self _ _ _ | (refine (hU_ne (by omega)).trans ?_; first | assumption | exact hU_self _ _ _ | (refine (hU_ne (by omega)).trans ?_; first | assumption | exact hU_self _ _ _ | (refine (hU_ne (by omega)).trans ?_; first | assumption | exact hU_self _ _ _)))) (by exact rfl) ?_
      refine qV_iload_n (pc := 32) 2 dX7_does_32 rfl rfl ?_
      refine qV_ialdN (pc := 33) (i) dX7_does_33 (by first | assumption | exact hU_self _ _ _ | (refine (hU_ne (by omega)).trans ?_; first | assumption | exact hU_self _ _ _ | (refine (hU_ne (by omega)).trans ?_; first | assumption | exact hU_self _ _ _ | (refine (hU_ne (by omega)).trans ?_; first | assumption | exact hU_self _ _ _)))) (by omega) (by omega) rfl ?_
      refine qV_aload_n (pc := 34) 0 dX7_does_34 rfl rfl ?_
      refine qV_get (pc := 35) kX7 8 (le_b rfl) lk_X7_29 rfl dX7_does_35 (by first | assumption | exact hU_self _ _ _ | (refine (hU_ne (by omega)).trans ?_; first | assumption | exact hU_self _ _ _ | (refine (hU_ne (by omega)).trans ?_; first | assumption | exact hU_self _ _ _ | (refine (hU_ne (by omega)).trans ?_; first | assumption | exact hU_self _ _ _)))) (by exact rfl) ?_
      refine qV_iload_n (pc := 38) 2 dX7_does_38 rfl rfl ?_
      refine qV_ialdN (pc := 39) (i) dX7_does_39 (by first | assumption | exact hU_self _ _ _ | (refine (hU_ne (by omega)).trans ?_; first | assumption | exact hU_self _ _ _ | (refine (hU_ne (by omega)).trans ?_; first | assumption | exact hU_self _ _ _ | (refine (hU_ne (by omega)).trans ?_; first | assumption | exact hU_self _ _ _)))) (by omega) (by omega) rfl ?_
      refine qV_isub (pc := 40) dX7_does_40 ?_
      refine qV_iadd (pc := 41) dX7_does_41 ?_
      refine qV_istore_n (pc := 42) 1 dX7_does_42 rfl (le_b rfl) (le_b rfl) rfl ?_
      refine qV_iinc (pc := 43) 2 dX7_does_43 rfl (le_b rfl) (le_b rfl) rfl ?_
      refine qV_goto (pc := 46) 19 dX7_does_46 (by decide) ?_
      exact ih (i + 1) _ _ (by omega) (by omega) (by omega) (by omega)
set_option maxRecDepth 100000 in
set_option maxHeartbeats 4000000 in
theorem does2 {A kn ty : Int} {z : Nat} {pl : Nat → Int} {h0 : qH} {x1 x3 : Int} {Q : Option Value → qH → Nat → Prop} (ho : h r = some (rob r kn ty z)) (c6 : h (r + 6) = some (iA 0 4 pl)) (hz4 : z ≤ 4) (hA : 0 ≤ A ∧ A ≤ 121) (hpl : ∀ t, t < z → 0 ≤ pl t ∧ pl t ≤ 120)
    (kk : ∀ (w : Int) (x5 : Option Value), dInv pl A z w → qVM l mX7_does 0 0 h0 sz Q 0 0 h sz 138 [some (.ref r), some (vI x1), some (vI A), some (vI x3), some (vI w), x5] []) :
    ∀ (d i : Nat) (q w : Int), z - i = d → i ≤ z → q = i → dInv pl A i w → qVM l mX7_does 0 0 h0 sz Q 0 0 h sz 81 [some (.ref r), some (vI x1), some (vI A), some (vI x3), some (vI w), some (vI q)] [] := by
  intro d
  induction d with
  | zero =>
    intro i q w hd hi hq hin
    obtain rfl : i = z := by omega
    refine qV_iload (pc := 81) 5 dX7_does_81 rfl ?_
    refine qV_aload_n (pc := 83) 0 dX7_does_83 rfl rfl ?_
    refine qV_get (pc := 84) kX7 11 (le_b rfl) lk_X7_76 rfl dX7_does_84 (by first | assumption | exact hU_self _ _ _ | (refine (hU_ne (by omega)).trans ?_; first | assumption | exact hU_self _ _ _ | (refine (hU_ne (by omega)).trans ?_; first | assumption | exact hU_self _ _ _ | (refine (hU_ne (by omega)).trans ?_; first | assumption | exact hU_self _ _ _)))) (by exact rfl) ?_
    refine qV_icmp_ge (pc := 87) 138 dX7_does_87 (by decide) ⟨by omega, by omega⟩ ⟨by omega, by omega⟩ (fun c87 => ?_) (fun c87 => ?_)
    · exact kk _ _ hin
    · exfalso; omega
  | succ d ih =>
    intro i q w hd hi hq hin
    have b := hpl i (by omega)
    rcases hin with ⟨rfl, g1⟩ | ⟨u, hu, rfl, g2, g3⟩
    · refine qV_iload (pc := 81) 5 dX7_does_81 rfl ?_
      refine qV_aload_n (pc := 83) 0 dX7_does_83 rfl rfl ?_
      refine qV_get (pc := 84) kX7 11 (le_b rfl) lk_X7_76 rfl dX7_does_84 (by first | assumption | exact hU_self _ _ _ | (refine (hU_ne (by omega)).trans ?_; first | assumption | exact hU_self _ _ _ | (refine (hU_ne (by omega)).trans ?_; first | assumption | exact hU_self _ _ _ | (refine (hU_ne (by omega)).trans ?_; first | assumption | exact hU_self _ _ _)))) (by exact rfl) ?_
      refine qV_icmp_ge (pc := 87) 138 dX7_does_87 (by decide) ⟨by omega, by omega⟩ ⟨by omega, by omega⟩ (fun c87 => ?_) (fun c87 => ?_)
      · exfalso; omega
      · refine qV_aload_n (pc := 90) 0 dX7_does_90 rfl rfl ?_
        refine qV_get (pc := 91) kX7 7 (le_b rfl) lk_X7_26 rfl dX7_does_91 (by first | assumption | exact hU_self _ _ _ | (refine (hU_ne (by omega)).trans ?_; first | assumption | exact hU_self _ _ _ | (refine (hU_ne (by omega)).trans ?_; first | assumption | exact hU_self _ _ _ | (refine (hU_ne (by omega)).trans ?_; first | assumption | exact hU_self _ _ _)))) (by exact rfl) ?_
        refine qV_iload (pc := 94) 5 dX7_does_94 rfl ?_
        refine qV_ialdN (pc := 96) (i) dX7_does_96 (by first | assumption | exact hU_self _ _ _ | (refine (hU_ne (by omega)).trans ?_; first | assumption | exact hU_self _ _ _ | (refine (hU_ne (by omega)).trans ?_; first | assumption | exact hU_self _ _ _ | (refine (hU_ne (by omega)).trans ?_; first | assumption | exact hU_self _ _ _)))) (by omega) (by omega) rfl ?_
        refine qV_iload_n (pc := 97) 2 dX7_does_97 rfl rfl ?_
        refine qV_icmp_ge (pc := 98) 128 dX7_does_98 (by decide) ⟨by omega, by omega⟩ ⟨by omega, by omega⟩ (fun c98 => ?_) (fun c98 => ?_)
        · have hin : dInv pl A (i + 1) (-1) := Or.inl ⟨rfl, fun t ht => by
            by_cases e : t = i
            · subst e; omega
            · have := g1 t (by omega)
              omega⟩
          refine qV_iload (pc := 128) 4 dX7_does_128 rfl ?_
          refine qV_istore (pc := 130) 4 dX7_does_130 (le_b rfl) (le_b rfl) rfl ?_
          refine qV_iinc (pc := 132) 5 dX7_does_132 rfl (le_b rfl) (le_b rfl) rfl ?_
          refine qV_goto (pc := 135) 81 dX7_does_135 (by decide) ?_
          exact ih (i + 1) _ _ (by omega) (by omega) (by omega) hin
        · have hin : dInv pl A (i + 1) q := Or.inr ⟨i, by omega, hq, by omega, fun t ht => by
            by_cases e : t = i
            · subst e; omega
            · have := g1 t (by omega)
              omega⟩
          refine qV_iload (pc := 101) 4 dX7_does_101 rfl ?_
          refine qV_iflt (pc := 103) 123 dX7_does_103 (by decide) ⟨by omega, by omega⟩ (fun c103 => ?_) (fun c103 => ?_)
          · refine qV_iload (pc := 123) 5 dX7_does_123 rfl ?_
            refine qV_goto (pc := 125) 130 dX7_does_125 (by decide) ?_
            refine qV_istore (pc := 130) 4 dX7_does_130 (le_b rfl) (le_b rfl) rfl ?_
            refine qV_iinc (pc := 132) 5 dX7_does_132 rfl (le_b rfl) (le_b rfl) rfl ?_
            refine qV_goto (pc := 135) 81 dX7_does_135 (by decide) ?_
            exact ih (i + 1) _ _ (by omega) (by omega) (by omega) hin
          · exfalso; omega
    · have bu := hpl u (by omega)
      refine qV_iload (pc := 81) 5 dX7_does_81 rfl ?_
      refine qV_aload_n (pc := 83) 0 dX7_does_83 rfl rfl ?_
      refine qV_get (pc := 84) kX7 11 (le_b rfl) lk_X7_76 rfl dX7_does_84 (by first | assumption | exact hU_self _ _ _ | (refine (hU_ne (by omega)).trans ?_; first | assumption | exact hU_self _ _ _ | (refine (hU_ne (by omega)).trans ?_; first | assumption | exact hU_self _ _ _ | (refine (hU_ne (by omega)).trans ?_; first | assumption | exact hU_self _ _ _)))) (by exact rfl) ?_
      refine qV_icmp_ge (pc := 87) 138 dX7_does_87 (by decide) ⟨by omega, by omega⟩ ⟨by omega, by omega⟩ (fun c87 => ?_) (fun c87 => ?_)
      · exfalso; omega
      · refine qV_aload_n (pc := 90) 0 dX7_does_90 rfl rfl ?_
        refine qV_get (pc := 91) kX7 7 (le_b rfl) lk_X7_26 rfl dX7_does_91 (by first | assumption | exact hU_self _ _ _ | (refine (hU_ne (by omega)).trans ?_; first | assumption | exact hU_self _ _ _ | (refine (hU_ne (by omega)).trans ?_; first | assumption | exact hU_self _ _ _ | (refine (hU_ne (by omega)).trans ?_; first | assumption | exact hU_self _ _ _)))) (by exact rfl) ?_
        refine qV_iload (pc := 94) 5 dX7_does_94 rfl ?_
        refine qV_ialdN (pc := 96) (i) dX7_does_96 (by first | assumption | exact hU_self _ _ _ | (refine (hU_ne (by omega)).trans ?_; first | assumption | exact hU_self _ _ _ | (refine (hU_ne (by omega)).trans ?_; first | assumption | exact hU_self _ _ _ | (refine (hU_ne (by omega)).trans ?_; first | assumption | exact hU_self _ _ _)))) (by omega) (by omega) rfl ?_
        refine qV_iload_n (pc := 97) 2 dX7_does_97 rfl rfl ?_
        refine qV_icmp_ge (pc := 98) 128 dX7_does_98 (by decide) ⟨by omega, by omega⟩ ⟨by omega, by omega⟩ (fun c98 => ?_) (fun c98 => ?_)
        · have hin : dInv pl A (i + 1) u := Or.inr ⟨u, by omega, rfl, g2, fun t ht => by
            by_cases e : t = i
            · subst e; omega
            · have := g3 t (by omega)
              omega⟩
          refine qV_iload (pc := 128) 4 dX7_does_128 rfl ?_
          refine qV_istore (pc := 130) 4 dX7_does_130 (le_b rfl) (le_b rfl) rfl ?_
          refine qV_iinc (pc := 132) 5 dX7_does_132 rfl (le_b rfl) (le_b rfl) rfl ?_
          refine qV_goto (pc := 135) 81 dX7_does_135 (by decide) ?_
          exact ih (i + 1) _ _ (by omega) (by omega) (by omega) hin
        · refine qV_iload (pc := 101) 4 dX7_does_101 rfl ?_
          refine qV_iflt (pc := 103) 123 dX7_does_103 (by decide) ⟨by omega, by omega⟩ (fun c103 => ?_) (fun c103 => ?_)
          · exfalso; omega
          · refine qV_aload_n (pc := 106) 0 dX7_does_106 rfl rfl ?_
            refine qV_get (pc := 107) kX7 7 (le_b rfl) lk_X7_26 rfl dX7_does_107 (by first | assumption | exact hU_self _ _ _ | (refine (hU_ne (by omega)).trans ?_; first | assumption | exact hU_self _ _ _ | (refine (hU_ne (by omega)).trans ?_; first | assumption | exact hU_self _ _ _ | (refine (hU_ne (by omega)).trans ?_; first | assumption | exact hU_self _ _ _)))) (by exact rfl) ?_
            refine qV_iload (pc := 110) 5 dX7_does_110 rfl ?_
            refine qV_ialdN (pc := 112) (i) dX7_does_112 (by first | assumption | exact hU_self _ _ _ | (refine (hU_ne (by omega)).trans ?_; first | assumption | exact hU_self _ _ _ | (refine (hU_ne (by omega)).trans ?_; first | assumption | exact hU_self _ _ _ | (refine (hU_ne (by omega)).trans ?_; first | assumption | exact hU_self _ _ _)))) (by omega) (by omega) rfl ?_
            refine qV_aload_n (pc := 113) 0 dX7_does_113 rfl rfl ?_
            refine qV_get (pc := 114) kX7 7 (le_b rfl) lk_X7_26 rfl dX7_does_114 (by first | assumption | exact hU_self _ _ _ | (refine (hU_ne (by omega)).trans ?_; first | assumption | exact hU_self _ _ _ | (refine (hU_ne (by omega)).trans ?_; first | assumption | exact hU_self _ _ _ | (refine (hU_ne (by omega)).trans ?_; first | assumption | exact hU_self _ _ _)))) (by exact rfl) ?_
            refine qV_iload (pc := 117) 4 dX7_does_117 rfl ?_
            refine qV_ialdN (pc := 119) (u) dX7_does_119 (by first | assumption | exact hU_self _ _ _ | (refine (hU_ne (by omega)).trans ?_; first | assumption | exact hU_self _ _ _ | (refine (hU_ne (by omega)).trans ?_; first | assumption | exact hU_self _ _ _ | (refine (hU_ne (by omega)).trans ?_; first | assumption | exact hU_self _ _ _)))) (by omega) (by omega) rfl ?_
            refine qV_icmp_le (pc := 120) 128 dX7_does_120 (by decide) ⟨by omega, by omega⟩ ⟨by omega, by omega⟩ (fun c120 => ?_) (fun c120 => ?_)
            · have hin : dInv pl A (i + 1) u := Or.inr ⟨u, by omega, rfl, g2, fun t ht => by
                by_cases e : t = i
                · subst e; omega
                · have := g3 t (by omega)
                  omega⟩
              refine qV_iload (pc := 128) 4 dX7_does_128 rfl ?_
              refine qV_istore (pc := 130) 4 dX7_does_130 (le_b rfl) (le_b rfl) rfl ?_
              refine qV_iinc (pc := 132) 5 dX7_does_132 rfl (le_b rfl) (le_b rfl) rfl ?_
              refine qV_goto (pc := 135) 81 dX7_does_135 (by decide) ?_
              exact ih (i + 1) _ _ (by omega) (by omega) (by omega) hin
            · have hin : dInv pl A (i + 1) q := Or.inr ⟨i, by omega, hq, by omega, fun t ht => by
                by_cases e : t = i
                · subst e; omega
                · have := g3 t (by omega)
                  omega⟩
              refine qV_iload (pc := 123) 5 dX7_does_123 rfl ?_
              refine qV_goto (pc := 125) 130 dX7_does_125 (by decide) ?_
              refine qV_istore (pc := 130) 4 dX7_does_130 (le_b rfl) (le_b rfl) rfl ?_
              refine qV_iinc (pc := 132) 5 dX7_does_132 rfl (le_b rfl) (le_b rfl) rfl ?_
              refine qV_goto (pc := 135) 81 dX7_does_135 (by decide) ?_
              exact ih (i + 1) _ _ (by omega) (by omega) (by omega) hin
set_option maxRecDepth 100000 in
set_option maxHeartbeats 4000000 in
theorem does3 {kn ty : Int} {z n : Nat} {S : Nat → ED} {pl tk tp td : Nat → Int} {P0 : PG} {h0 : qH} {x1 : Int} {Q : Option Value → qH → Nat → Prop} (ho : h r = some (rob r kn ty z)) (c6 : h (r + 6) = some (iA 0 4 pl)) (c7 : h (r + 7) = some (iA 0 4 tk)) (c8 : h (r + 8) = some (iA 0 96 tp)) (c9 : h (r + 9) = some (iA 0 4 td)) (hZ : RStg pl tk tp td S z) (hS : okS S z n) (hn : n ≤ 120) (hz4 : z ≤ 4)
    (kk : ∀ (g : Nat → Int) (A q : Int) (x4 x5 : Option Value), SP g (doA S z P0) → qVM l mX7_does 0 0 h0 sz Q 0 0 (hM h r g) sz 186 [some (.ref r), some (vI x1), some (vI A), some (vI q), x4, x5] []) :
    ∀ (d t : Nat) (q A : Int) (P : PG) (g : Nat → Int) (x4 x5 : Option Value), z - t = d → t ≤ z → q = t → SP g P → wf 216 P → P.1 ≤ 120 + 24 * t → (∀ j, j < z - t → (S j).1 + (S j).2.1 ≤ P.1) → doA S (z - t) P = doA S z P0 → (∀ j, j < z → (((S j).1 : Int) < A ↔ j < z - t)) → (0 ≤ A ∧ A ≤ 121) → qVM l mX7_does 0 0 h0 sz Q 0 0 (hM h r g) sz 67 [some (.ref r), some (vI x1), some (vI A), some (vI q), x4, x5] [] := by
  have hpl : ∀ t, t < z → 0 ≤ pl t ∧ pl t ≤ 120 := fun t ht => by
    obtain ⟨j, hj, r1, -⟩ := hZ.1 t ht
    have := hS.2.2 j hj
    omega
  intro d
  induction d with
  | zero =>
    intro t q A P g x4 x5 hd ht hq hSg hw hl hj hdo hA hA2
    obtain rfl : t = z := by omega
    rw [show t - t = 0 by omega] at hdo
    have hdo : P = doA S t P0 := hdo
    rw [hdo] at hSg
    refine qV_iload_n (pc := 67) 3 dX7_does_67 rfl rfl ?_
    refine qV_aload_n (pc := 68) 0 dX7_does_68 rfl rfl ?_
    refine qV_get (pc := 69) kX7 11 (le_b rfl) lk_X7_76 rfl dX7_does_69 (by first | assumption | exact hU_self _ _ _ | (refine (hU_ne (by omega)).trans ?_; first | assumption | exact hU_self _ _ _ | (refine (hU_ne (by omega)).trans ?_; first | assumption | exact hU_self _ _ _ | (refine (hU_ne (by omega)).trans ?_; first | assumption | exact hU_self _ _ _)))) (by exact rfl) ?_
    refine qV_icmp_ge (pc := 72) 186 dX7_does_72 (by decide) ⟨by omega, by omega⟩ ⟨by omega, by omega⟩ (fun c72 => ?_) (fun c72 => ?_)
    · exact kk g _ _ _ _ hSg
    · exfalso; omega
  | succ d ih =>
    intro t q A P g x4 x5 hd ht hq hSg hw hl hj hdo hA hA2
    have ho1 : hM h r g r = some (rob r kn ty z) := (hU_ne (by omega)).trans ho
    have d6 : hM h r g (r + 6) = some (iA 0 4 pl) := (hU_ne (by omega)).trans c6
    have d7 : hM h r g (r + 7) = some (iA 0 4 tk) := (hU_ne (by omega)).trans c7
    have d8 : hM h r g (r + 8) = some (iA 0 96 tp) := (hU_ne (by omega)).trans c8
    have d9 : hM h r g (r + 9) = some (iA 0 4 td) := (hU_ne (by omega)).trans c9
    refine qV_iload_n (pc := 67) 3 dX7_does_67 rfl rfl ?_
    refine qV_aload_n (pc := 68) 0 dX7_does_68 rfl rfl ?_
    refine qV_get (pc := 69) kX7 11 (le_b rfl) lk_X7_76 rfl dX7_does_69 (by first | assumption | exact hU_self _ _ _ | (refine (hU_ne (by omega)).trans ?_; first | assumption | exact hU_self _ _ _ | (refine (hU_ne (by omega)).trans ?_; first | assumption | exact hU_self _ _ _ | (refine (hU_ne (by omega)).trans ?_; first | assumption | exact hU_self _ _ _)))) (by exact rfl) ?_
    refine qV_icmp_ge (pc := 72) 186 dX7_does_72 (by decide) ⟨by omega, by omega⟩ ⟨by omega, by omega⟩ (fun c72 => ?_) (fun c72 => ?_)
    · exfalso; omega
    · refine qV_iconst (pc := 75) dX7_does_75 ?_
      refine qV_istore (pc := 76) 4 dX7_does_76 (le_b rfl) (le_b rfl) rfl ?_
      refine qV_iconst (pc := 78) dX7_does_78 ?_
      refine qV_istore (pc := 79) 5 dX7_does_79 (le_b rfl) (le_b rfl) rfl ?_
      refine does2 (pl := pl) ho1 d6 hz4 hA2 hpl (fun w x5 hin => ?_) z 0 _ _ (by omega) (by omega) rfl (Or.inl ⟨rfl, fun t ht => by omega⟩)
      obtain ⟨i', hi', r'⟩ := hZ.2.1 d (by omega)
      have ha := (hA d (by omega)).mpr (by omega)
      have hru : ∃ u : Nat, u < z ∧ w = u ∧ rowE pl tk tp td u (S d) := by
        rcases hin with ⟨rfl, g1⟩ | ⟨u, hu, rfl, g2, g3⟩
        · have := g1 i' hi'; have := r'.1; omega
        · refine ⟨u, hu, rfl, ?_⟩
          obtain ⟨j, hj, ru⟩ := hZ.1 u hu
          have e1 := ru.1
          have e2 := r'.1
          have e3 := g3 i' hi' (by omega)
          have e4 := (hA j hj).mp (by omega)
          have e5 : j = d := by
            by_cases e : j < d
            · have := hS.2.1 j d e (by omega); omega
            · omega
          subst e5
          exact ru
      obtain ⟨u, hu, rfl, ru⟩ := hru
      have hSd := hS.1 d (by omega)
      have hjd := hj d (by omega)
      have hed := m_edit (l := l) (sz := sz) (W := (S d).2.2.2) (i := (S d).1) (k := (S d).2.1) (m := (S d).2.2.1) (a := 24 * u) (p := (S d).1) (q := (S d).2.1) (x := 24 * (u : Int)) (y := (S d).2.2.1) ho1 (hU_self _ _ _) hSg hw d8 (by omega) rfl rfl (by omega) rfl ⟨by omega, by omega⟩ ru.2.2.2 hjd hSd.1 (by omega)
      refine qV_aload_n (pc := 138) 0 dX7_does_138 rfl rfl ?_
      refine qV_aload_n (pc := 139) 0 dX7_does_139 rfl rfl ?_
      refine qV_get (pc := 140) kX7 7 (le_b rfl) lk_X7_26 rfl dX7_does_140 (by first | assumption | exact hU_self _ _ _ | (refine (hU_ne (by omega)).trans ?_; first | assumption | exact hU_self _ _ _ | (refine (hU_ne (by omega)).trans ?_; first | assumption | exact hU_self _ _ _ | (refine (hU_ne (by omega)).trans ?_; first | assumption | exact hU_self _ _ _)))) (by exact rfl) ?_
      refine qV_iload (pc := 143) 4 dX7_does_143 rfl ?_
      refine qV_ialdN (pc := 145) (u) dX7_does_145 (by first | assumption | exact hU_self _ _ _ | (refine (hU_ne (by omega)).trans ?_; first | assumption | exact hU_self _ _ _ | (refine (hU_ne (by omega)).trans ?_; first | assumption | exact hU_self _ _ _ | (refine (hU_ne (by omega)).trans ?_; first | assumption | exact hU_self _ _ _)))) (by omega) (by omega) ru.1 ?_
      refine qV_aload_n (pc := 146) 0 dX7_does_146 rfl rfl ?_
      refine qV_get (pc := 147) kX7 8 (le_b rfl) lk_X7_29 rfl dX7_does_147 (by first | assumption | exact hU_self _ _ _ | (refine (hU_ne (by omega)).trans ?_; first | assumption | exact hU_self _ _ _ | (refine (hU_ne (by omega)).trans ?_; first | assumption | exact hU_self _ _ _ | (refine (hU_ne (by omega)).trans ?_; first | assumption | exact hU_self _ _ _)))) (by exact rfl) ?_
      refine qV_iload (pc := 150) 4 dX7_does_150 rfl ?_
      refine qV_ialdN (pc := 152) (u) dX7_does_152 (by first | assumption | exact hU_self _ _ _ | (refine (hU_ne (by omega)).trans ?_; first | assumption | exact hU_self _ _ _ | (refine (hU_ne (by omega)).trans ?_; first | assumption | exact hU_self _ _ _ | (refine (hU_ne (by omega)).trans ?_; first | assumption | exact hU_self _ _ _)))) (by omega) (by omega) ru.2.1 ?_
      refine qV_aload_n (pc := 153) 0 dX7_does_153 rfl rfl ?_
      refine qV_get (pc := 154) kX7 9 (le_b rfl) lk_X7_32 rfl dX7_does_154 (by first | assumption | exact hU_self _ _ _ | (refine (hU_ne (by omega)).trans ?_; first | assumption | exact hU_self _ _ _ | (refine (hU_ne (by omega)).trans ?_; first | assumption | exact hU_self _ _ _ | (refine (hU_ne (by omega)).trans ?_; first | assumption | exact hU_self _ _ _)))) (by exact rfl) ?_
      refine qV_bipush (pc := 157) dX7_does_157 rfl ?_
      refine qV_iload (pc := 159) 4 dX7_does_159 rfl ?_
      refine qV_imul (pc := 161) dX7_does_161 ?_
      refine qV_aload_n (pc := 162) 0 dX7_does_162 rfl rfl ?_
      refine qV_get (pc := 163) kX7 10 (le_b rfl) lk_X7_35 rfl dX7_does_163 (by first | assumption | exact hU_self _ _ _ | (refine (hU_ne (by omega)).trans ?_; first | assumption | exact hU_self _ _ _ | (refine (hU_ne (by omega)).trans ?_; first | assumption | exact hU_self _ _ _ | (refine (hU_ne (by omega)).trans ?_; first | assumption | exact hU_self _ _ _)))) (by exact rfl) ?_
      refine qV_iload (pc := 166) 4 dX7_does_166 rfl ?_
      refine qV_ialdN (pc := 168) (u) dX7_does_168 (by first | assumption | exact hU_self _ _ _ | (refine (hU_ne (by omega)).trans ?_; first | assumption | exact hU_self _ _ _ | (refine (hU_ne (by omega)).trans ?_; first | assumption | exact hU_self _ _ _ | (refine (hU_ne (by omega)).trans ?_; first | assumption | exact hU_self _ _ _)))) (by omega) (by omega) ru.2.2.1 ?_
      refine qV_voV (pc := 169) (hed) nX7_edit kX7 lk_X7_82 dX7_does_169 (by first | assumption | exact hU_self _ _ _ | (refine (hU_ne (by omega)).trans ?_; first | assumption | exact hU_self _ _ _ | (refine (hU_ne (by omega)).trans ?_; first | assumption | exact hU_self _ _ _ | (refine (hU_ne (by omega)).trans ?_; first | assumption | exact hU_self _ _ _)))) ⟨le_b rfl, le_b rfl⟩ ⟨le_b rfl, le_b rfl⟩ rfl (le_b rfl) ?_
      rintro h3 sz3 ⟨⟨g2, rfl, hSg2⟩, rfl⟩
      refine qV_heap ?_ (hU_hU _ _ _ _) rfl
      refine qV_aload_n (pc := 172) 0 dX7_does_172 rfl rfl ?_
      refine qV_get (pc := 173) kX7 7 (le_b rfl) lk_X7_26 rfl dX7_does_173 (by first | assumption | exact hU_self _ _ _ | (refine (hU_ne (by omega)).trans ?_; first | assumption | exact hU_self _ _ _ | (refine (hU_ne (by omega)).trans ?_; first | assumption | exact hU_self _ _ _ | (refine (hU_ne (by omega)).trans ?_; first | assumption | exact hU_self _ _ _)))) (by exact rfl) ?_
      refine qV_iload (pc := 176) 4 dX7_does_176 rfl ?_
      refine qV_ialdN (pc := 178) (u) dX7_does_178 (by first | assumption | exact hU_self _ _ _ | (refine (hU_ne (by omega)).trans ?_; first | assumption | exact hU_self _ _ _ | (refine (hU_ne (by omega)).trans ?_; first | assumption | exact hU_self _ _ _ | (refine (hU_ne (by omega)).trans ?_; first | assumption | exact hU_self _ _ _)))) (by omega) (by omega) ru.1 ?_
      refine qV_istore_n (pc := 179) 2 dX7_does_179 rfl (le_b rfl) (le_b rfl) rfl ?_
      refine qV_iinc (pc := 180) 3 dX7_does_180 rfl (le_b rfl) (le_b rfl) rfl ?_
      refine qV_goto (pc := 183) 67 dX7_does_183 (by decide) ?_
      rw [show z - t = d + 1 by omega] at hdo
      have hn2 := ed_n (P := P) (p := (S d).1) (k := (S d).2.1) (m := (S d).2.2.1) (W := (S d).2.2.2)
      refine ih (t + 1) _ _ _ g2 _ _ (by omega) (by omega) (by omega) hSg2 (wf_ed hw hjd hSd.1 hSd.2 (by omega)) (by omega) (fun j hj' => ?_) ?_ (fun j hj' => ?_) (by omega)
      · have := hS.2.1 j d (by omega) (by omega); omega
      · rw [show z - (t + 1) = d by omega]; exact hdo
      · constructor
        · intro q1
          by_cases e : j < d
          · omega
          · by_cases e2 : j = d
            · subst e2; omega
            · have := hS.2.1 d j (by omega) hj'; omega
        · intro q1
          have := hS.2.1 j d (by omega) (by omega); omega
set_option maxRecDepth 100000 in
set_option maxHeartbeats 4000000 in
theorem r_does  (hR : RInv h r X) (wx : wfX X) : qRt l mX7_does 0 0 [.ref r] h sz (fun w h' sz' => w = vI (oDoes X).1 ∧ RInv h' r (oDoes X).2 ∧ Fr h h' r (r + 10) ∧ sz' = sz) := by
  obtain ⟨s, pa, im, kp, ta, pl, tk, tp, td, hH, hP, hY, hI, hT, hZ⟩ := id hR
  obtain ⟨ho, c1, c2, c3, c4, c5, c6, c7, c8, c9⟩ := id hH
  obtain ⟨p0, p1, p2, pT, pC, pM⟩ := id hP
  have hw : wf 216 X.1 := wx.1.1.up (by have := wx.1.1.1; omega)
  obtain ⟨⟨⟨w1, w2, w3, w4, w5, w6, w7⟩, w8⟩, ⟨w9, w10⟩, wS, wz, wH, wy, wI⟩ := id wx
  have wcl := hw.c_le
  have hgi := grw_in (S := X.2.2.1.1) (z := X.2.2.1.2) (fun i hi => ⟨(wS.1 i hi).1, by have := wS.2.2 i hi; omega⟩)
  have hwH : ∀ i, i < X.2.2.2.1.2 → wf 216 (X.2.2.2.1.1 i) := fun i hi => (wH i hi).1.up (by have := (wH i hi).1.1; omega)
  have hk1 := m_keeps (l := l) (sz := sz) hH hP hw hY hwH wy
  refine qC.of 5 (by decide) (le_b rfl) ?_
  refine qV_aload_n (pc := 0) 0 dX7_does_0 rfl rfl ?_
  refine qV_get (pc := 1) kX7 11 (le_b rfl) lk_X7_76 rfl dX7_does_1 (by first | assumption | exact hU_self _ _ _ | (refine (hU_ne (by omega)).trans ?_; first | assumption | exact hU_self _ _ _ | (refine (hU_ne (by omega)).trans ?_; first | assumption | exact hU_self _ _ _ | (refine (hU_ne (by omega)).trans ?_; first | assumption | exact hU_self _ _ _)))) (by exact rfl) ?_
  refine qV_ifne (pc := 4) 10 dX7_does_4 (by decide) ⟨by omega, by omega⟩ (fun c4 => ?_) (fun c4 => ?_)
  · refine qV_aload_n (pc := 10) 0 dX7_does_10 rfl rfl ?_
    refine qV_get (pc := 11) kX7 0 (le_b rfl) lk_X7_7 rfl dX7_does_11 (by first | assumption | exact hU_self _ _ _ | (refine (hU_ne (by omega)).trans ?_; first | assumption | exact hU_self _ _ _ | (refine (hU_ne (by omega)).trans ?_; first | assumption | exact hU_self _ _ _ | (refine (hU_ne (by omega)).trans ?_; first | assumption | exact hU_self _ _ _)))) (by exact rfl) ?_
    refine qV_iconst (pc := 14) dX7_does_14 ?_
    refine qV_ialdN (pc := 15) (0) dX7_does_15 (by first | assumption | exact hU_self _ _ _ | (refine (hU_ne (by omega)).trans ?_; first | assumption | exact hU_self _ _ _ | (refine (hU_ne (by omega)).trans ?_; first | assumption | exact hU_self _ _ _ | (refine (hU_ne (by omega)).trans ?_; first | assumption | exact hU_self _ _ _)))) (by omega) (by omega) p0 ?_
    refine qV_istore_n (pc := 16) 1 dX7_does_16 rfl (le_b rfl) (le_b rfl) rfl ?_
    refine qV_iconst (pc := 17) dX7_does_17 ?_
    refine qV_istore_n (pc := 18) 2 dX7_does_18 rfl (le_b rfl) (le_b rfl) rfl ?_
    refine does1 (n := X.1.1) ho c7 c9 wz (fun x2 => ?_) X.2.2.1.2 0 _ _ (by omega) (by omega) rfl (by simp only [csum]; omega)
    rw [hZ.2.2]
    refine qV_iload_n (pc := 49) 1 dX7_does_49 rfl rfl ?_
    refine qV_bipush (pc := 50) dX7_does_50 rfl ?_
    refine qV_icmp_le (pc := 52) 58 dX7_does_52 (by decide) ⟨by omega, by omega⟩ ⟨by omega, by omega⟩ (fun c52 => ?_) (fun c52 => ?_)
    · have e0 : oDoes X = ((X.1.1 : Int) + grw X.2.2.1.1 X.2.2.1.2, (doA X.2.2.1.1 X.2.2.1.2 X.1, X.2.1, (X.2.2.1.1, 0), (pushH X.2.2.2.1.1 X.1, min (X.2.2.2.1.2 + 1) 8), X.2.2.2.2)) := (if_neg (by omega)).trans (if_neg (by omega))
      have e9 := (wfm_do wx.1 wS wz (by omega)).2
      refine qV_aload_n (pc := 58) 0 dX7_does_58 rfl rfl ?_
      refine qV_voV (pc := 59) (hk1) nX7_keeps kX7 lk_X7_79 dX7_does_59 (by first | assumption | exact hU_self _ _ _ | (refine (hU_ne (by omega)).trans ?_; first | assumption | exact hU_self _ _ _ | (refine (hU_ne (by omega)).trans ?_; first | assumption | exact hU_self _ _ _ | (refine (hU_ne (by omega)).trans ?_; first | assumption | exact hU_self _ _ _)))) ⟨le_b rfl, le_b rfl⟩ ⟨le_b rfl, le_b rfl⟩ rfl (le_b rfl) ?_
      rintro h2 sz2 ⟨⟨pa2, hH2, hY2⟩, f2, rfl⟩
      obtain ⟨ho2, d1, d2, d3, d4, d5, d6, d7, d8, d9⟩ := id hH2
      refine qV_bipush (pc := 62) dX7_does_62 rfl ?_
      refine qV_istore_n (pc := 64) 2 dX7_does_64 rfl (le_b rfl) (le_b rfl) rfl ?_
      refine qV_iconst (pc := 65) dX7_does_65 ?_
      refine qV_istore_n (pc := 66) 3 dX7_does_66 rfl (le_b rfl) (le_b rfl) rfl ?_
      refine qV_heap ?_ (hU_id d1).symm rfl
      refine does3 (n := X.1.1) (P0 := X.1) ho2 d6 d7 d8 d9 hZ wS w1 wz (fun g A q x4 x5 hSg => ?_) X.2.2.1.2 0 _ _ X.1 s _ _ (by omega) (by omega) rfl hP hw (by omega) (fun j hj => wS.2.2 j hj) rfl (fun j hj => ⟨fun _ => by omega, fun _ => by have := wS.2.2 j hj; omega⟩) (by omega)
      have eg0 := hSg.1
      refine qV_aload_n (pc := 186) 0 dX7_does_186 rfl rfl ?_
      refine qV_iconst (pc := 187) dX7_does_187 ?_
      refine qV_put (pc := 188) kX7 11 (le_b rfl) lk_X7_76 rfl rfl rfl rfl dX7_does_188 (by first | assumption | exact hU_self _ _ _ | (refine (hU_ne (by omega)).trans ?_; first | assumption | exact hU_self _ _ _ | (refine (hU_ne (by omega)).trans ?_; first | assumption | exact hU_self _ _ _ | (refine (hU_ne (by omega)).trans ?_; first | assumption | exact hU_self _ _ _)))) (by exact le_b rfl) ?_
      refine qV_aload_n (pc := 191) 0 dX7_does_191 rfl rfl ?_
      refine qV_get (pc := 192) kX7 0 (le_b rfl) lk_X7_7 rfl dX7_does_192 (by first | assumption | exact hU_self _ _ _ | (refine (hU_ne (by omega)).trans ?_; first | assumption | exact hU_self _ _ _ | (refine (hU_ne (by omega)).trans ?_; first | assumption | exact hU_self _ _ _ | (refine (hU_ne (by omega)).trans ?_; first | assumption | exact hU_self _ _ _)))) (by exact rfl) ?_
      refine qV_iconst (pc := 195) dX7_does_195 ?_
      refine qV_ialdN (pc := 196) (0) dX7_does_196 (by first | assumption | exact hU_self _ _ _ | (refine (hU_ne (by omega)).trans ?_; first | assumption | exact hU_self _ _ _ | (refine (hU_ne (by omega)).trans ?_; first | assumption | exact hU_self _ _ _ | (refine (hU_ne (by omega)).trans ?_; first | assumption | exact hU_self _ _ _)))) (by omega) (by omega) eg0 ?_
      refine qV_iret (pc := 197) dX7_does_197 rfl (le_b rfl) (le_b rfl) ?_
      refine ⟨_, rfl, by rw [e0, e9], ?_, f2.trans (fun q hq => by repeat (first | with_reducible rfl | refine (hU_ne (by omega)).trans ?_)), rfl⟩
      rw [e0]
      exact ⟨g, pa2, im, kp, ta, pl, tk, tp, td, ⟨(by repeat (first | assumption | exact hU_self _ _ _ | refine (hU_ne (by omega)).trans ?_)), (by repeat (first | assumption | exact hU_self _ _ _ | refine (hU_ne (by omega)).trans ?_)), (by repeat (first | assumption | exact hU_self _ _ _ | refine (hU_ne (by omega)).trans ?_)), (by repeat (first | assumption | exact hU_self _ _ _ | refine (hU_ne (by omega)).trans ?_)), (by repeat (first | assumption | exact hU_self _ _ _ | refine (hU_ne (by omega)).trans ?_)), (by repeat (first | assumption | exact hU_self _ _ _ | refine (hU_ne (by omega)).trans ?_)), (by repeat (first | assumption | exact hU_self _ _ _ | refine (hU_ne (by omega)).trans ?_)), (by repeat (first | assumption | exact hU_self _ _ _ | refine (hU_ne (by omega)).trans ?_)), (by repeat (first | assumption | exact hU_self _ _ _ | refine (hU_ne (by omega)).trans ?_)), (by repeat (first | assumption | exact hU_self _ _ _ | refine (hU_ne (by omega)).trans ?_))⟩, hSg, hY2, hI, hT, RStg.z0⟩
    · have e0 : oDoes X = (-3, X) := (if_neg (by omega)).trans (if_pos (by omega))
      refine qV_bipush (pc := 55) dX7_does_55 rfl ?_
      refine qV_iret (pc := 57) dX7_does_57 rfl (le_b rfl) (le_b rfl) ?_
      exact ⟨_, rfl, by rw [e0], by rw [e0]; exact hR, Fr.rf, rfl⟩
  · have e0 : oDoes X = (-2, X) := if_pos (by omega)
    refine qV_bipush (pc := 7) dX7_does_7 rfl ?_
    refine qV_iret (pc := 9) dX7_does_9 rfl (le_b rfl) (le_b rfl) ?_
    exact ⟨_, rfl, by rw [e0], by rw [e0]; exact hR, Fr.rf, rfl⟩
end REF6
