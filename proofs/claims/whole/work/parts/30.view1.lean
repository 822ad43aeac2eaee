/-! ===== ChunkView: what its cells hold; what is only read ===== -/
def Imgs (h : qH) (sz v : Nat) (I : Nat → Option PG) : Prop := ∃ f : Nat → Option Nat, h (v + 95) = some (rA 2 2 f) ∧ (∀ i, i < 2 → I i = none → f i = none) ∧ (∀ i Q, i < 2 → I i = some Q → ∃ a, f i = some a ∧ v + 106 ≤ a ∧ a + 7 ≤ sz ∧ Page h a 120 Q) ∧ (∀ a b, f 0 = some a → f 1 = some b → a + 7 ≤ b ∨ b + 7 ≤ a)
theorem Imgs.fr {h h' : qH} {sz v lo hi : Nat} {I : Nat → Option PG} (a : Imgs h sz v I) (b : Fr h h' lo hi) (d : hi ≤ v + 95 ∨ (v + 96 ≤ lo ∧ hi ≤ v + 106)) : Imgs h' sz v I := by
  obtain ⟨f, a1, a2, a3, a4⟩ := a
  refine ⟨f, (b _ (by omega)).trans a1, a2, fun i Q hi hQ => ?_, a4⟩
  obtain ⟨a, b1, b2, b3, b4⟩ := a3 i Q hi hQ
  exact ⟨a, b1, b2, b3, b4.fr b (by omega)⟩
abbrev vob (v : Nat) : qE := oB 6 [.ref (v + 1), .ref (v + 8), .ref (v + 21), .ref (v + 23), .ref (v + 37), .ref (v + 95)]
def CInv (h : qH) (sz v : Nat) (X : XS) : Prop := h v = some (vob v) ∧ Page h (v + 1) 216 X.1 ∧ (∃ s, Sums h (v + 8) X.1.1 X.1.2.1 s) ∧ Row h (v + 21) 24 X.2.1.1 X.2.1.2 ∧ Stg h (v + 23) X.2.2.1.1 X.2.2.1.2 ∧ Hst h (v + 37) X.2.2.2.1.1 X.2.2.2.1.2 ∧ Imgs h sz v X.2.2.2.2 ∧ v + 106 ≤ sz
theorem CInv.fr {h h' : qH} {sz v : Nat} {X : XS} (a : CInv h sz v X) (b : Fr h h' (v + 96) (v + 106)) : CInv h' sz v X := by
  obtain ⟨a1, a2, ⟨s, a3⟩, a4, a5, a6, a7, a8⟩ := a
  exact ⟨(b _ (by omega)).trans a1, a2.fr b (by omega), ⟨s, a3.fr b (by omega)⟩, a4.fr b (by omega), a5.fr b (by omega), a6.fr b (by omega), a7.fr b (by omega), a8⟩
/-- the other side's cells stay -/
def Kp (h h' : qH) (v : Nat) : Prop := ∀ q, v + 96 ≤ q → q < v + 106 → h' q = h q
theorem Kp.of {h h' : qH} {v lo hi : Nat} (f : Fr h h' lo hi) (d : hi ≤ v + 96 ∨ v + 106 ≤ lo) : Kp h h' v := fun q h1 h2 => f q (by omega)
theorem Kp.trans {h h' h2 : qH} {v : Nat} (a : Kp h h' v) (b : Kp h' h2 v) : Kp h h2 v := fun q h1 h3 => (b q h1 h3).trans (a q h1 h3)
theorem Kp.rf {h : qH} {v : Nat} : Kp h h v := fun _ _ _ => rfl
section VIEW
variable {l : Launch} {h : qH} {sz v : Nat} {X : XS}
set_option maxRecDepth 100000 in
set_option maxHeartbeats 4000000 in
theorem v_isPlace {x : Int} (hx : iR x) (hI : CInv h sz v X) (wx : wfX X) : qRd l mX6_isPlace [.ref v, vI x] h sz (vB (isPl X x)) := by
  obtain ⟨ho, hP, ⟨s0, hS⟩, ht, hg, hy, hi, hv⟩ := id hI
  obtain ⟨hp1, hpb, hpc, hpm⟩ := id hP
  obtain ⟨⟨⟨w1, w2, w3, w4, w5, w6, w7⟩, w8⟩, -⟩ := id wx
  have hs1 := hS.1
  obtain ⟨_, _, -, -, hg1, -⟩ := id hg
  obtain ⟨_, _, -, hy1, -⟩ := id hy
  obtain ⟨x1, x2⟩ := hx
  refine qC.of 0 (by decide) (le_b rfl) ?_
  refine qV_iload_n (pc := 0) 1 dX6_isPlace_0 rfl rfl ?_
  refine qV_iflt (pc := 1) 22 dX6_isPlace_1 (by decide) ⟨by omega, by omega⟩ (fun c1 => ?_) (fun c1 => ?_)
  · refine qV_iconst (pc := 22) dX6_isPlace_22 ?_
    refine qV_zret (pc := 23) dX6_isPlace_23 rfl (by first | exact Or.inl rfl | exact Or.inr rfl) (le_b rfl) (le_b rfl) ?_
    first | exact ⟨by rw [vB, if_pos (by omega)], rfl, rfl⟩ | exact ⟨by rw [vB, if_neg (by omega)], rfl, rfl⟩
  · refine qV_iload_n (pc := 4) 1 dX6_isPlace_4 rfl rfl ?_
    refine qV_aload_n (pc := 5) 0 dX6_isPlace_5 rfl rfl ?_
    refine qV_get (pc := 6) kX6 0 (le_b rfl) lk_X6_14 rfl dX6_isPlace_6 (by first | assumption | exact hU_self _ _ _ | (refine (hU_ne (by omega)).trans ?_; first | assumption | exact hU_self _ _ _ | (refine (hU_ne (by omega)).trans ?_; first | assumption | exact hU_self _ _ _ | (refine (hU_ne (by omega)).trans ?_; first | assumption | exact hU_self _ _ _)))) (by exact rfl) ?_
    refine qV_get (pc := 9) kX2 0 (le_b rfl) lk_X6_65 rfl dX6_isPlace_9 (by first | assumption | exact hU_self _ _ _ | (refine (hU_ne (by omega)).trans ?_; first | assumption | exact hU_self _ _ _ | (refine (hU_ne (by omega)).trans ?_; first | assumption | exact hU_self _ _ _ | (refine (hU_ne (by omega)).trans ?_; first | assumption | exact hU_self _ _ _)))) (by exact rfl) ?_
    refine qV_rdV (pc := 12) (c_size hpb) nX3_size kX3 lk_X6_50 dX6_isPlace_12 hpb.obj ⟨le_b rfl, le_b rfl⟩ ⟨le_b rfl, le_b rfl⟩ rfl (le_b rfl) ?_
    refine qV_icmp_gt (pc := 15) 22 dX6_isPlace_15 (by decide) ⟨by omega, by omega⟩ ⟨by omega, by omega⟩ (fun c15 => ?_) (fun c15 => ?_)
    · refine qV_iconst (pc := 22) dX6_isPlace_22 ?_
      refine qV_zret (pc := 23) dX6_isPlace_23 rfl (by first | exact Or.inl rfl | exact Or.inr rfl) (le_b rfl) (le_b rfl) ?_
      first | exact ⟨by rw [vB, if_pos (by omega)], rfl, rfl⟩ | exact ⟨by rw [vB, if_neg (by omega)], rfl, rfl⟩
    · refine qV_iconst (pc := 18) dX6_isPlace_18 ?_
      refine qV_goto (pc := 19) 23 dX6_isPlace_19 (by decide) ?_
      refine qV_zret (pc := 23) dX6_isPlace_23 rfl (by first | exact Or.inl rfl | exact Or.inr rfl) (le_b rfl) (le_b rfl) ?_
      first | exact ⟨by rw [vB, if_pos (by omega)], rfl, rfl⟩ | exact ⟨by rw [vB, if_neg (by omega)], rfl, rfl⟩
set_option maxRecDepth 100000 in
set_option maxHeartbeats 4000000 in
theorem v_isStretch {x k : Int} (hx : iR x) (hk : iR k) (hI : CInv h sz v X) (wx : wfX X) : qRd l mX6_isStretch [.ref v, vI x, vI k] h sz (vB (isSt X x k)) := by
  obtain ⟨ho, hP, ⟨s0, hS⟩, ht, hg, hy, hi, hv⟩ := id hI
  obtain ⟨hp1, hpb, hpc, hpm⟩ := id hP
  obtain ⟨⟨⟨w1, w2, w3, w4, w5, w6, w7⟩, w8⟩, -⟩ := id wx
  have hs1 := hS.1
  obtain ⟨_, _, -, -, hg1, -⟩ := id hg
  obtain ⟨_, _, -, hy1, -⟩ := id hy
  obtain ⟨x1, x2⟩ := hx
  obtain ⟨k1, k2⟩ := hk
  refine qC.of 0 (by decide) (le_b rfl) ?_
  refine qV_aload_n (pc := 0) 0 dX6_isStretch_0 rfl rfl ?_
  refine qV_iload_n (pc := 1) 1 dX6_isStretch_1 rfl rfl ?_
  refine qV_rdV (pc := 2) (v_isPlace ⟨x1, x2⟩ hI wx) nX6_isPlace kX6 lk_X6_115 dX6_isStretch_2 (by first | assumption | exact hU_self _ _ _ | (refine (hU_ne (by omega)).trans ?_; first | assumption | exact hU_self _ _ _ | (refine (hU_ne (by omega)).trans ?_; first | assumption | exact hU_self _ _ _ | (refine (hU_ne (by omega)).trans ?_; first | assumption | exact hU_self _ _ _)))) ⟨le_b rfl, le_b rfl⟩ ⟨le_b rfl, le_b rfl⟩ rfl (le_b rfl) ?_
  refine qV_ifeqB (pc := 5) 32 dX6_isStretch_5 (by decide) (fun c5 => ?_) (fun c5 => ?_)
  · refine qV_iconst (pc := 32) dX6_isStretch_32 ?_
    refine qV_zret (pc := 33) dX6_isStretch_33 rfl (by first | exact Or.inl rfl | exact Or.inr rfl) (le_b rfl) (le_b rfl) ?_
    first | exact ⟨by rw [vB, if_pos (by omega)], rfl, rfl⟩ | exact ⟨by rw [vB, if_neg (by omega)], rfl, rfl⟩
  · refine qV_iload_n (pc := 8) 2 dX6_isStretch_8 rfl rfl ?_
    refine qV_iflt (pc := 9) 32 dX6_isStretch_9 (by decide) ⟨by omega, by omega⟩ (fun c9 => ?_) (fun c9 => ?_)
    · refine qV_iconst (pc := 32) dX6_isStretch_32 ?_
      refine qV_zret (pc := 33) dX6_isStretch_33 rfl (by first | exact Or.inl rfl | exact Or.inr rfl) (le_b rfl) (le_b rfl) ?_
      first | exact ⟨by rw [vB, if_pos (by omega)], rfl, rfl⟩ | exact ⟨by rw [vB, if_neg (by omega)], rfl, rfl⟩
    · refine qV_iload_n (pc := 12) 2 dX6_isStretch_12 rfl rfl ?_
      refine qV_aload_n (pc := 13) 0 dX6_isStretch_13 rfl rfl ?_
      refine qV_get (pc := 14) kX6 0 (le_b rfl) lk_X6_14 rfl dX6_isStretch_14 (by first | assumption | exact hU_self _ _ _ | (refine (hU_ne (by omega)).trans ?_; first | assumption | exact hU_self _ _ _ | (refine (hU_ne (by omega)).trans ?_; first | assumption | exact hU_self _ _ _ | (refine (hU_ne (by omega)).trans ?_; first | assumption | exact hU_self _ _ _)))) (by exact rfl) ?_
      refine qV_get (pc := 17) kX2 0 (le_b rfl) lk_X6_65 rfl dX6_isStretch_17 (by first | assumption | exact hU_self _ _ _ | (refine (hU_ne (by omega)).trans ?_; first | assumption | exact hU_self _ _ _ | (refine (hU_ne (by omega)).trans ?_; first | assumption | exact hU_self _ _ _ | (refine (hU_ne (by omega)).trans ?_; first | assumption | exact hU_self _ _ _)))) (by exact rfl) ?_
      refine qV_rdV (pc := 20) (c_size hpb) nX3_size kX3 lk_X6_50 dX6_isStretch_20 hpb.obj ⟨le_b rfl, le_b rfl⟩ ⟨le_b rfl, le_b rfl⟩ rfl (le_b rfl) ?_
      refine qV_iload_n (pc := 23) 1 dX6_isStretch_23 rfl rfl ?_
      refine qV_isub (pc := 24) dX6_isStretch_24 ?_
      refine qV_icmp_gt (pc := 25) 32 dX6_isStretch_25 (by decide) ⟨by omega, by omega⟩ ⟨by omega, by omega⟩ (fun c25 => ?_) (fun c25 => ?_)
      · refine qV_iconst (pc := 32) dX6_isStretch_32 ?_
        refine qV_zret (pc := 33) dX6_isStretch_33 rfl (by first | exact Or.inl rfl | exact Or.inr rfl) (le_b rfl) (le_b rfl) ?_
        first | exact ⟨by rw [vB, if_pos (by omega)], rfl, rfl⟩ | exact ⟨by rw [vB, if_neg (by omega)], rfl, rfl⟩
      · refine qV_iconst (pc := 28) dX6_isStretch_28 ?_
        refine qV_goto (pc := 29) 33 dX6_isStretch_29 (by decide) ?_
        refine qV_zret (pc := 33) dX6_isStretch_33 rfl (by first | exact Or.inl rfl | exact Or.inr rfl) (le_b rfl) (le_b rfl) ?_
        first | exact ⟨by rw [vB, if_pos (by omega)], rfl, rfl⟩ | exact ⟨by rw [vB, if_neg (by omega)], rfl, rfl⟩
set_option maxRecDepth 100000 in
set_option maxHeartbeats 4000000 in
theorem v_isLine {x : Int} (hx : iR x) (hI : CInv h sz v X) (wx : wfX X) : qRd l mX6_isLine [.ref v, vI x] h sz (vB (isLn X x)) := by
  obtain ⟨ho, hP, ⟨s0, hS⟩, ht, hg, hy, hi, hv⟩ := id hI
  obtain ⟨hp1, hpb, hpc, hpm⟩ := id hP
  obtain ⟨⟨⟨w1, w2, w3, w4, w5, w6, w7⟩, w8⟩, -⟩ := id wx
  have hs1 := hS.1
  obtain ⟨_, _, -, -, hg1, -⟩ := id hg
  obtain ⟨_, _, -, hy1, -⟩ := id hy
  obtain ⟨x1, x2⟩ := hx
  have hnl := nl_le X.1.2.1 X.1.1
  refine qC.of 0 (by decide) (le_b rfl) ?_
  refine qV_iload_n (pc := 0) 1 dX6_isLine_0 rfl rfl ?_
  refine qV_iflt (pc := 1) 19 dX6_isLine_1 (by decide) ⟨by omega, by omega⟩ (fun c1 => ?_) (fun c1 => ?_)
  · refine qV_iconst (pc := 19) dX6_isLine_19 ?_
    refine qV_zret (pc := 20) dX6_isLine_20 rfl (by first | exact Or.inl rfl | exact Or.inr rfl) (le_b rfl) (le_b rfl) ?_
    first | exact ⟨by rw [vB, if_pos (by omega)], rfl, rfl⟩ | exact ⟨by rw [vB, if_neg (by omega)], rfl, rfl⟩
  · refine qV_iload_n (pc := 4) 1 dX6_isLine_4 rfl rfl ?_
    refine qV_aload_n (pc := 5) 0 dX6_isLine_5 rfl rfl ?_
    refine qV_get (pc := 6) kX6 1 (le_b rfl) lk_X6_21 rfl dX6_isLine_6 (by first | assumption | exact hU_self _ _ _ | (refine (hU_ne (by omega)).trans ?_; first | assumption | exact hU_self _ _ _ | (refine (hU_ne (by omega)).trans ?_; first | assumption | exact hU_self _ _ _ | (refine (hU_ne (by omega)).trans ?_; first | assumption | exact hU_self _ _ _)))) (by exact rfl) ?_
    refine qV_rdV (pc := 9) (c_lines hS) nX5_lines kX5 lk_X6_179 dX6_isLine_9 (by first | assumption | exact hU_self _ _ _ | (refine (hU_ne (by omega)).trans ?_; first | assumption | exact hU_self _ _ _ | (refine (hU_ne (by omega)).trans ?_; first | assumption | exact hU_self _ _ _ | (refine (hU_ne (by omega)).trans ?_; first | assumption | exact hU_self _ _ _)))) ⟨le_b rfl, le_b rfl⟩ ⟨le_b rfl, le_b rfl⟩ rfl (le_b rfl) ?_
    refine qV_icmp_ge (pc := 12) 19 dX6_isLine_12 (by decide) ⟨by omega, by omega⟩ ⟨by omega, by omega⟩ (fun c12 => ?_) (fun c12 => ?_)
    · refine qV_iconst (pc := 19) dX6_isLine_19 ?_
      refine qV_zret (pc := 20) dX6_isLine_20 rfl (by first | exact Or.inl rfl | exact Or.inr rfl) (le_b rfl) (le_b rfl) ?_
      first | exact ⟨by rw [vB, if_pos (by omega)], rfl, rfl⟩ | exact ⟨by rw [vB, if_neg (by omega)], rfl, rfl⟩
    · refine qV_iconst (pc := 15) dX6_isLine_15 ?_
      refine qV_goto (pc := 16) 20 dX6_isLine_16 (by decide) ?_
      refine qV_zret (pc := 20) dX6_isLine_20 rfl (by first | exact Or.inl rfl | exact Or.inr rfl) (le_b rfl) (le_b rfl) ?_
      first | exact ⟨by rw [vB, if_pos (by omega)], rfl, rfl⟩ | exact ⟨by rw [vB, if_neg (by omega)], rfl, rfl⟩
set_option maxRecDepth 100000 in
set_option maxHeartbeats 4000000 in
theorem v_isMeasure {x : Int} (hx : iR x) : qRd l mX6_isMeasure [vI x] h sz (vB (0 ≤ x ∧ x ≤ 3)) := by
  obtain ⟨x1, x2⟩ := hx
  refine qC.of 0 (by decide) (le_b rfl) ?_
  refine qV_iload_n (pc := 0) 0 dX6_isMeasure_0 rfl rfl ?_
  refine qV_iflt (pc := 1) 13 dX6_isMeasure_1 (by decide) ⟨by omega, by omega⟩ (fun c1 => ?_) (fun c1 => ?_)
  · refine qV_iconst (pc := 13) dX6_isMeasure_13 ?_
    refine qV_zret (pc := 14) dX6_isMeasure_14 rfl (by first | exact Or.inl rfl | exact Or.inr rfl) (le_b rfl) (le_b rfl) ?_
    first | exact ⟨by rw [vB, if_pos (by omega)], rfl, rfl⟩ | exact ⟨by rw [vB, if_neg (by omega)], rfl, rfl⟩
  · refine qV_iload_n (pc := 4) 0 dX6_isMeasure_4 rfl rfl ?_
    refine qV_iconst (pc := 5) dX6_isMeasure_5 ?_
    refine qV_icmp_gt (pc := 6) 13 dX6_isMeasure_6 (by decide) ⟨by omega, by omega⟩ ⟨by omega, by omega⟩ (fun c6 => ?_) (fun c6 => ?_)
    · refine qV_iconst (pc := 13) dX6_isMeasure_13 ?_
      refine qV_zret (pc := 14) dX6_isMeasure_14 rfl (by first | exact Or.inl rfl | exact Or.inr rfl) (le_b rfl) (le_b rfl) ?_
      first | exact ⟨by rw [vB, if_pos (by omega)], rfl, rfl⟩ | exact ⟨by rw [vB, if_neg (by omega)], rfl, rfl⟩
    · refine qV_iconst (pc := 9) dX6_isMeasure_9 ?_
      refine qV_goto (pc := 10) 14 dX6_isMeasure_10 (by decide) ?_
      refine qV_zret (pc := 14) dX6_isMeasure_14 rfl (by first | exact Or.inl rfl | exact Or.inr rfl) (le_b rfl) (le_b rfl) ?_
      first | exact ⟨by rw [vB, if_pos (by omega)], rfl, rfl⟩ | exact ⟨by rw [vB, if_neg (by omega)], rfl, rfl⟩
set_option maxRecDepth 100000 in
set_option maxHeartbeats 4000000 in
theorem v_isName {x : Int} (hx : iR x) : qRd l mX6_isName [vI x] h sz (vB (isNm x)) := by
  obtain ⟨x1, x2⟩ := hx
  refine qC.of 0 (by decide) (le_b rfl) ?_
  refine qV_iload_n (pc := 0) 0 dX6_isName_0 rfl rfl ?_
  refine qV_bipush (pc := 1) dX6_isName_1 rfl ?_
  refine qV_icmp_lt (pc := 3) 16 dX6_isName_3 (by decide) ⟨by omega, by omega⟩ ⟨by omega, by omega⟩ (fun c3 => ?_) (fun c3 => ?_)
  · refine qV_iconst (pc := 16) dX6_isName_16 ?_
    refine qV_zret (pc := 17) dX6_isName_17 rfl (by first | exact Or.inl rfl | exact Or.inr rfl) (le_b rfl) (le_b rfl) ?_
    first | exact ⟨by rw [vB, if_pos (by omega)], rfl, rfl⟩ | exact ⟨by rw [vB, if_neg (by omega)], rfl, rfl⟩
  · refine qV_iload_n (pc := 6) 0 dX6_isName_6 rfl rfl ?_
    refine qV_bipush (pc := 7) dX6_isName_7 rfl ?_
    refine qV_icmp_ge (pc := 9) 16 dX6_isName_9 (by decide) ⟨by omega, by omega⟩ ⟨by omega, by omega⟩ (fun c9 => ?_) (fun c9 => ?_)
    · refine qV_iconst (pc := 16) dX6_isName_16 ?_
      refine qV_zret (pc := 17) dX6_isName_17 rfl (by first | exact Or.inl rfl | exact Or.inr rfl) (le_b rfl) (le_b rfl) ?_
      first | exact ⟨by rw [vB, if_pos (by omega)], rfl, rfl⟩ | exact ⟨by rw [vB, if_neg (by omega)], rfl, rfl⟩
    · refine qV_iconst (pc := 12) dX6_isName_12 ?_
      refine qV_goto (pc := 13) 17 dX6_isName_13 (by decide) ?_
      refine qV_zret (pc := 17) dX6_isName_17 rfl (by first | exact Or.inl rfl | exact Or.inr rfl) (le_b rfl) (le_b rfl) ?_
      first | exact ⟨by rw [vB, if_pos (by omega)], rfl, rfl⟩ | exact ⟨by rw [vB, if_neg (by omega)], rfl, rfl⟩
set_option maxRecDepth 100000 in
set_option maxHeartbeats 4000000 in
theorem v_mil {x : Int} (hx : iR x) : qRd l mX6_measureInLine [vI x] h sz (vI (mil x : Nat)) := by
  obtain ⟨x1, x2⟩ := hx
  refine qC.of 0 (by decide) (le_b rfl) ?_
  refine qV_iload_n (pc := 0) 0 dX6_measureInLine_0 rfl rfl ?_
  refine qV_iconst (pc := 1) dX6_measureInLine_1 ?_
  refine qV_icmp_ne (pc := 2) 9 dX6_measureInLine_2 (by decide) ⟨by omega, by omega⟩ ⟨by omega, by omega⟩ (fun c2 => ?_) (fun c2 => ?_)
  · refine qV_iload_n (pc := 9) 0 dX6_measureInLine_9 rfl rfl ?_
    refine qV_iconst (pc := 10) dX6_measureInLine_10 ?_
    refine qV_icmp_ne (pc := 11) 18 dX6_measureInLine_11 (by decide) ⟨by omega, by omega⟩ ⟨by omega, by omega⟩ (fun c11 => ?_) (fun c11 => ?_)
    · refine qV_iconst (pc := 18) dX6_measureInLine_18 ?_
      refine qV_iret (pc := 19) dX6_measureInLine_19 rfl (le_b rfl) (le_b rfl) ?_
      first | exact ⟨by simp only [mil]; rw [if_pos (by omega)]; rfl, rfl, rfl⟩ | exact ⟨by simp only [mil]; rw [if_neg (by omega), if_pos (by omega)]; rfl, rfl, rfl⟩ | exact ⟨by simp only [mil]; rw [if_neg (by omega), if_neg (by omega)]; rfl, rfl, rfl⟩
    · refine qV_iconst (pc := 14) dX6_measureInLine_14 ?_
      refine qV_goto (pc := 15) 19 dX6_measureInLine_15 (by decide) ?_
      refine qV_iret (pc := 19) dX6_measureInLine_19 rfl (le_b rfl) (le_b rfl) ?_
      first | exact ⟨by simp only [mil]; rw [if_pos (by omega)]; rfl, rfl, rfl⟩ | exact ⟨by simp only [mil]; rw [if_neg (by omega), if_pos (by omega)]; rfl, rfl, rfl⟩ | exact ⟨by simp only [mil]; rw [if_neg (by omega), if_neg (by omega)]; rfl, rfl, rfl⟩
  · refine qV_iconst (pc := 5) dX6_measureInLine_5 ?_
    refine qV_goto (pc := 6) 19 dX6_measureInLine_6 (by decide) ?_
    refine qV_iret (pc := 19) dX6_measureInLine_19 rfl (le_b rfl) (le_b rfl) ?_
    first | exact ⟨by simp only [mil]; rw [if_pos (by omega)]; rfl, rfl, rfl⟩ | exact ⟨by simp only [mil]; rw [if_neg (by omega), if_pos (by omega)]; rfl, rfl, rfl⟩ | exact ⟨by simp only [mil]; rw [if_neg (by omega), if_neg (by omega)]; rfl, rfl, rfl⟩
theorem mil_lt (w : Int) : mil w < 4 := by simp only [mil]; split <;> (try split) <;> omega
set_option maxRecDepth 100000 in
set_option maxHeartbeats 4000000 in
theorem v_at {x : Int} (hx : iR x) (hI : CInv h sz v X) (wx : wfX X) : qRd l mX6_at [.ref v, vI x] h sz (vI (oAt X x)) := by
  obtain ⟨ho, hP, ⟨s0, hS⟩, ht, hg, hy, hi, hv⟩ := id hI
  obtain ⟨hp1, hpb, hpc, hpm⟩ := id hP
  obtain ⟨⟨⟨w1, w2, w3, w4, w5, w6, w7⟩, w8⟩, -⟩ := id wx
  have hs1 := hS.1
  obtain ⟨_, _, -, -, hg1, -⟩ := id hg
  obtain ⟨_, _, -, hy1, -⟩ := id hy
  obtain ⟨x1, x2⟩ := hx
  refine qC.of 0 (by decide) (le_b rfl) ?_
  refine qV_iload_n (pc := 0) 1 dX6_at_0 rfl rfl ?_
  refine qV_iflt (pc := 1) 18 dX6_at_1 (by decide) ⟨by omega, by omega⟩ (fun c1 => ?_) (fun c1 => ?_)
  · refine qV_iconst (pc := 18) dX6_at_18 ?_
    refine qV_iret (pc := 19) dX6_at_19 rfl (le_b rfl) (le_b rfl) ?_
    first | exact ⟨by simp only [oAt]; rw [if_pos (by omega)], rfl, rfl⟩ | exact ⟨by simp only [oAt]; rw [if_neg (by omega)], rfl, rfl⟩
  · refine qV_iload_n (pc := 4) 1 dX6_at_4 rfl rfl ?_
    refine qV_aload_n (pc := 5) 0 dX6_at_5 rfl rfl ?_
    refine qV_get (pc := 6) kX6 0 (le_b rfl) lk_X6_14 rfl dX6_at_6 (by first | assumption | exact hU_self _ _ _ | (refine (hU_ne (by omega)).trans ?_; first | assumption | exact hU_self _ _ _ | (refine (hU_ne (by omega)).trans ?_; first | assumption | exact hU_self _ _ _ | (refine (hU_ne (by omega)).trans ?_; first | assumption | exact hU_self _ _ _)))) (by exact rfl) ?_
    refine qV_get (pc := 9) kX2 0 (le_b rfl) lk_X6_65 rfl dX6_at_9 (by first | assumption | exact hU_self _ _ _ | (refine (hU_ne (by omega)).trans ?_; first | assumption | exact hU_self _ _ _ | (refine (hU_ne (by omega)).trans ?_; first | assumption | exact hU_self _ _ _ | (refine (hU_ne (by omega)).trans ?_; first | assumption | exact hU_self _ _ _)))) (by exact rfl) ?_
    refine qV_rdV (pc := 12) (c_size hpb) nX3_size kX3 lk_X6_50 dX6_at_12 hpb.obj ⟨le_b rfl, le_b rfl⟩ ⟨le_b rfl, le_b rfl⟩ rfl (le_b rfl) ?_
    refine qV_icmp_lt (pc := 15) 20 dX6_at_15 (by decide) ⟨by omega, by omega⟩ ⟨by omega, by omega⟩ (fun c15 => ?_) (fun c15 => ?_)
    · refine qV_aload_n (pc := 20) 0 dX6_at_20 rfl rfl ?_
      refine qV_get (pc := 21) kX6 0 (le_b rfl) lk_X6_14 rfl dX6_at_21 (by first | assumption | exact hU_self _ _ _ | (refine (hU_ne (by omega)).trans ?_; first | assumption | exact hU_self _ _ _ | (refine (hU_ne (by omega)).trans ?_; first | assumption | exact hU_self _ _ _ | (refine (hU_ne (by omega)).trans ?_; first | assumption | exact hU_self _ _ _)))) (by exact rfl) ?_
      refine qV_get (pc := 24) kX2 0 (le_b rfl) lk_X6_65 rfl dX6_at_24 (by first | assumption | exact hU_self _ _ _ | (refine (hU_ne (by omega)).trans ?_; first | assumption | exact hU_self _ _ _ | (refine (hU_ne (by omega)).trans ?_; first | assumption | exact hU_self _ _ _ | (refine (hU_ne (by omega)).trans ?_; first | assumption | exact hU_self _ _ _)))) (by exact rfl) ?_
      refine qV_iload_n (pc := 27) 1 dX6_at_27 rfl rfl ?_
      refine qV_rdV (pc := 28) (c_gt hpb (i := x.toNat) (by omega) (by omega)) nX3_get kX3 lk_X6_97 dX6_at_28 hpb.obj ⟨le_b rfl, le_b rfl⟩ ⟨le_b rfl, le_b rfl⟩ rfl (le_b rfl) ?_
      refine qV_iret (pc := 31) dX6_at_31 rfl (le_b rfl) (le_b rfl) ?_
      first | exact ⟨by simp only [oAt]; rw [if_pos (by omega)], rfl, rfl⟩ | exact ⟨by simp only [oAt]; rw [if_neg (by omega)], rfl, rfl⟩
    · refine qV_iconst (pc := 18) dX6_at_18 ?_
      refine qV_iret (pc := 19) dX6_at_19 rfl (le_b rfl) (le_b rfl) ?_
      first | exact ⟨by simp only [oAt]; rw [if_pos (by omega)], rfl, rfl⟩ | exact ⟨by simp only [oAt]; rw [if_neg (by omega)], rfl, rfl⟩
set_option maxRecDepth 100000 in
set_option maxHeartbeats 4000000 in
theorem v_tells {f a t : Int} (hf : iR f) (ha : iR a) (hx : iR t) (hI : CInv h sz v X) (wx : wfX X) : qRd l mX6_tells [.ref v, vI f, vI a, vI t] h sz (vI (oTells X f a t)) := by
  obtain ⟨ho, hP, ⟨s0, hS⟩, ht, hg, hy, hi, hv⟩ := id hI
  obtain ⟨hp1, hpb, hpc, hpm⟩ := id hP
  obtain ⟨⟨⟨w1, w2, w3, w4, w5, w6, w7⟩, w8⟩, -⟩ := id wx
  have hs1 := hS.1
  obtain ⟨_, _, -, -, hg1, -⟩ := id hg
  obtain ⟨_, _, -, hy1, -⟩ := id hy
  obtain ⟨x1, x2⟩ := hx
  obtain ⟨f1, f2⟩ := hf
  obtain ⟨a1, a2⟩ := ha
  have hm := measM_in X.1.2.1 f.toNat X.1.1
  have hfar := far_in X.1.2.1 f.toNat 0 a X.1.1 0
  refine qC.of 0 (by decide) (le_b rfl) ?_
  refine qV_iload_n (pc := 0) 1 dX6_tells_0 rfl rfl ?_
  refine qV_rdS (pc := 1) (v_isMeasure ⟨f1, f2⟩) nX6_isMeasure lk_X6_101 dX6_tells_1 ⟨le_b rfl, le_b rfl⟩ ⟨le_b rfl, le_b rfl⟩ rfl (le_b rfl) ?_
  refine qV_ifeqB (pc := 4) 30 dX6_tells_4 (by decide) (fun c4 => ?_) (fun c4 => ?_)
  · refine qV_iconst (pc := 30) dX6_tells_30 ?_
    refine qV_iret (pc := 31) dX6_tells_31 rfl (le_b rfl) (le_b rfl) ?_
    first
    | exact ⟨by simp only [oTells]; rw [if_pos (show (¬ (0 ≤ f ∧ f ≤ 3) ∨ ¬ (0 ≤ t ∧ t ≤ 3) ∨ a < 0 ∨ measM X.1.2.1 f.toNat X.1.1 < a) by omega)], rfl, rfl⟩
    | exact ⟨by simp only [oTells]; rw [if_neg (show ¬ (¬ (0 ≤ f ∧ f ≤ 3) ∨ ¬ (0 ≤ t ∧ t ≤ 3) ∨ a < 0 ∨ measM X.1.2.1 f.toNat X.1.1 < a) by omega)], rfl, rfl⟩
  · refine qV_iload_n (pc := 7) 3 dX6_tells_7 rfl rfl ?_
    refine qV_rdS (pc := 8) (v_isMeasure ⟨x1, x2⟩) nX6_isMeasure lk_X6_101 dX6_tells_8 ⟨le_b rfl, le_b rfl⟩ ⟨le_b rfl, le_b rfl⟩ rfl (le_b rfl) ?_
    refine qV_ifeqB (pc := 11) 30 dX6_tells_11 (by decide) (fun c11 => ?_) (fun c11 => ?_)
    · refine qV_iconst (pc := 30) dX6_tells_30 ?_
      refine qV_iret (pc := 31) dX6_tells_31 rfl (le_b rfl) (le_b rfl) ?_
      first
      | exact ⟨by simp only [oTells]; rw [if_pos (show (¬ (0 ≤ f ∧ f ≤ 3) ∨ ¬ (0 ≤ t ∧ t ≤ 3) ∨ a < 0 ∨ measM X.1.2.1 f.toNat X.1.1 < a) by omega)], rfl, rfl⟩
      | exact ⟨by simp only [oTells]; rw [if_neg (show ¬ (¬ (0 ≤ f ∧ f ≤ 3) ∨ ¬ (0 ≤ t ∧ t ≤ 3) ∨ a < 0 ∨ measM X.1.2.1 f.toNat X.1.1 < a) by omega)], rfl, rfl⟩
    · refine qV_iload_n (pc := 14) 2 dX6_tells_14 rfl rfl ?_
      refine qV_iflt (pc := 15) 30 dX6_tells_15 (by decide) ⟨by omega, by omega⟩ (fun c15 => ?_) (fun c15 => ?_)
      · refine qV_iconst (pc := 30) dX6_tells_30 ?_
        refine qV_iret (pc := 31) dX6_tells_31 rfl (le_b rfl) (le_b rfl) ?_
        first
        | exact ⟨by simp only [oTells]; rw [if_pos (show (¬ (0 ≤ f ∧ f ≤ 3) ∨ ¬ (0 ≤ t ∧ t ≤ 3) ∨ a < 0 ∨ measM X.1.2.1 f.toNat X.1.1 < a) by omega)], rfl, rfl⟩
        | exact ⟨by simp only [oTells]; rw [if_neg (show ¬ (¬ (0 ≤ f ∧ f ≤ 3) ∨ ¬ (0 ≤ t ∧ t ≤ 3) ∨ a < 0 ∨ measM X.1.2.1 f.toNat X.1.1 < a) by omega)], rfl, rfl⟩
      · refine qV_iload_n (pc := 18) 2 dX6_tells_18 rfl rfl ?_
        refine qV_aload_n (pc := 19) 0 dX6_tells_19 rfl rfl ?_
        refine qV_get (pc := 20) kX6 1 (le_b rfl) lk_X6_21 rfl dX6_tells_20 (by first | assumption | exact hU_self _ _ _ | (refine (hU_ne (by omega)).trans ?_; first | assumption | exact hU_self _ _ _ | (refine (hU_ne (by omega)).trans ?_; first | assumption | exact hU_self _ _ _ | (refine (hU_ne (by omega)).trans ?_; first | assumption | exact hU_self _ _ _)))) (by exact rfl) ?_
        refine qV_iload_n (pc := 23) 1 dX6_tells_23 rfl rfl ?_
        refine qV_rdV (pc := 24) (c_total (w := f.toNat) hS (by omega) (by omega)) nX5_total kX5 lk_X6_105 dX6_tells_24 (by first | assumption | exact hU_self _ _ _ | (refine (hU_ne (by omega)).trans ?_; first | assumption | exact hU_self _ _ _ | (refine (hU_ne (by omega)).trans ?_; first | assumption | exact hU_self _ _ _ | (refine (hU_ne (by omega)).trans ?_; first | assumption | exact hU_self _ _ _)))) ⟨le_b rfl, le_b rfl⟩ ⟨le_b rfl, le_b rfl⟩ rfl (le_b rfl) ?_
        refine qV_icmp_le (pc := 27) 32 dX6_tells_27 (by decide) ⟨by omega, by omega⟩ ⟨by omega, by omega⟩ (fun c27 => ?_) (fun c27 => ?_)
        · have hpl : (if f.toNat = 2 then lbN X.1.2.1 X.1.1 a.toNat else far X.1.2.1 f.toNat 0 a X.1.1 0) ≤ X.1.1 := by
            by_cases e : f.toNat = 2
            · rw [if_pos e]
              rw [e, nl_meas] at c27
              exact (lb_spec X.1.2.1 (by omega)).1
            · rw [if_neg e]; omega
          refine qV_aload_n (pc := 32) 0 dX6_tells_32 rfl rfl ?_
          refine qV_get (pc := 33) kX6 1 (le_b rfl) lk_X6_21 rfl dX6_tells_33 (by first | assumption | exact hU_self _ _ _ | (refine (hU_ne (by omega)).trans ?_; first | assumption | exact hU_self _ _ _ | (refine (hU_ne (by omega)).trans ?_; first | assumption | exact hU_self _ _ _ | (refine (hU_ne (by omega)).trans ?_; first | assumption | exact hU_self _ _ _)))) (by exact rfl) ?_
          refine qV_iload_n (pc := 36) 3 dX6_tells_36 rfl rfl ?_
          refine qV_aload_n (pc := 37) 0 dX6_tells_37 rfl rfl ?_
          refine qV_get (pc := 38) kX6 1 (le_b rfl) lk_X6_21 rfl dX6_tells_38 (by first | assumption | exact hU_self _ _ _ | (refine (hU_ne (by omega)).trans ?_; first | assumption | exact hU_self _ _ _ | (refine (hU_ne (by omega)).trans ?_; first | assumption | exact hU_self _ _ _ | (refine (hU_ne (by omega)).trans ?_; first | assumption | exact hU_self _ _ _)))) (by exact rfl) ?_
          refine qV_iload_n (pc := 41) 1 dX6_tells_41 rfl rfl ?_
          refine qV_iload_n (pc := 42) 2 dX6_tells_42 rfl rfl ?_
          refine qV_rdV (pc := 43) (c_placeBy (w := f.toNat) hS (by omega) (by omega) (by omega) (by omega)) nX5_placeBy kX5 lk_X6_108 dX6_tells_43 (by first | assumption | exact hU_self _ _ _ | (refine (hU_ne (by omega)).trans ?_; first | assumption | exact hU_self _ _ _ | (refine (hU_ne (by omega)).trans ?_; first | assumption | exact hU_self _ _ _ | (refine (hU_ne (by omega)).trans ?_; first | assumption | exact hU_self _ _ _)))) ⟨le_b rfl, le_b rfl⟩ ⟨le_b rfl, le_b rfl⟩ rfl (le_b rfl) ?_
          refine qV_rdV (pc := 46) (c_ahead (w := t.toNat) hS (by omega) (by omega) rfl hpl) nX5_ahead kX5 lk_X6_112 dX6_tells_46 (by first | assumption | exact hU_self _ _ _ | (refine (hU_ne (by omega)).trans ?_; first | assumption | exact hU_self _ _ _ | (refine (hU_ne (by omega)).trans ?_; first | assumption | exact hU_self _ _ _ | (refine (hU_ne (by omega)).trans ?_; first | assumption | exact hU_self _ _ _)))) ⟨le_b rfl, le_b rfl⟩ ⟨le_b rfl, le_b rfl⟩ rfl (le_b rfl) ?_
          refine qV_iret (pc := 49) dX6_tells_49 rfl (le_b rfl) (le_b rfl) ?_
          first
          | exact ⟨by simp only [oTells]; rw [if_pos (show (¬ (0 ≤ f ∧ f ≤ 3) ∨ ¬ (0 ≤ t ∧ t ≤ 3) ∨ a < 0 ∨ measM X.1.2.1 f.toNat X.1.1 < a) by omega)], rfl, rfl⟩
          | exact ⟨by simp only [oTells]; rw [if_neg (show ¬ (¬ (0 ≤ f ∧ f ≤ 3) ∨ ¬ (0 ≤ t ∧ t ≤ 3) ∨ a < 0 ∨ measM X.1.2.1 f.toNat X.1.1 < a) by omega)], rfl, rfl⟩
        · refine qV_iconst (pc := 30) dX6_tells_30 ?_
          refine qV_iret (pc := 31) dX6_tells_31 rfl (le_b rfl) (le_b rfl) ?_
          first
          | exact ⟨by simp only [oTells]; rw [if_pos (show (¬ (0 ≤ f ∧ f ≤ 3) ∨ ¬ (0 ≤ t ∧ t ≤ 3) ∨ a < 0 ∨ measM X.1.2.1 f.toNat X.1.1 < a) by omega)], rfl, rfl⟩
          | exact ⟨by simp only [oTells]; rw [if_neg (show ¬ (¬ (0 ≤ f ∧ f ≤ 3) ∨ ¬ (0 ≤ t ∧ t ≤ 3) ∨ a < 0 ∨ measM X.1.2.1 f.toNat X.1.1 < a) by omega)], rfl, rfl⟩
set_option maxRecDepth 100000 in
set_option maxHeartbeats 4000000 in
theorem v_spot {x w : Int} (hx : iR x) (hw0 : iR w) (hI : CInv h sz v X) (wx : wfX X) : qRd l mX6_spot [.ref v, vI x, vI w] h sz (vI (oSpot X x w)) := by
  obtain ⟨ho, hP, ⟨s0, hS⟩, ht, hg, hy, hi, hv⟩ := id hI
  obtain ⟨hp1, hpb, hpc, hpm⟩ := id hP
  obtain ⟨⟨⟨w1, w2, w3, w4, w5, w6, w7⟩, w8⟩, -⟩ := id wx
  have hs1 := hS.1
  obtain ⟨_, _, -, -, hg1, -⟩ := id hg
  obtain ⟨_, _, -, hy1, -⟩ := id hy
  obtain ⟨x1, x2⟩ := hx
  obtain ⟨q1, q2⟩ := hw0
  refine qC.of 1 (by decide) (le_b rfl) ?_
  refine qV_aload_n (pc := 0) 0 dX6_spot_0 rfl rfl ?_
  refine qV_iload_n (pc := 1) 1 dX6_spot_1 rfl rfl ?_
  refine qV_rdV (pc := 2) (v_isPlace ⟨x1, x2⟩ hI wx) nX6_isPlace kX6 lk_X6_115 dX6_spot_2 (by first | assumption | exact hU_self _ _ _ | (refine (hU_ne (by omega)).trans ?_; first | assumption | exact hU_self _ _ _ | (refine (hU_ne (by omega)).trans ?_; first | assumption | exact hU_self _ _ _ | (refine (hU_ne (by omega)).trans ?_; first | assumption | exact hU_self _ _ _)))) ⟨le_b rfl, le_b rfl⟩ ⟨le_b rfl, le_b rfl⟩ rfl (le_b rfl) ?_
  refine qV_ifeqB (pc := 5) 17 dX6_spot_5 (by decide) (fun c5 => ?_) (fun c5 => ?_)
  · refine qV_iconst (pc := 17) dX6_spot_17 ?_
    refine qV_iret (pc := 18) dX6_spot_18 rfl (le_b rfl) (le_b rfl) ?_
    first
    | exact ⟨by simp only [oSpot]; rw [if_pos (by omega)], rfl, rfl⟩
    | exact ⟨by simp only [oSpot]; rw [if_neg (by omega), if_pos (by omega)], rfl, rfl⟩
    | exact ⟨by simp only [oSpot]; rw [if_neg (by omega), if_neg (by omega)], rfl, rfl⟩
  · refine qV_iload_n (pc := 8) 2 dX6_spot_8 rfl rfl ?_
    refine qV_iflt (pc := 9) 17 dX6_spot_9 (by decide) ⟨by omega, by omega⟩ (fun c9 => ?_) (fun c9 => ?_)
    · refine qV_iconst (pc := 17) dX6_spot_17 ?_
      refine qV_iret (pc := 18) dX6_spot_18 rfl (le_b rfl) (le_b rfl) ?_
      first
      | exact ⟨by simp only [oSpot]; rw [if_pos (by omega)], rfl, rfl⟩
      | exact ⟨by simp only [oSpot]; rw [if_neg (by omega), if_pos (by omega)], rfl, rfl⟩
      | exact ⟨by simp only [oSpot]; rw [if_neg (by omega), if_neg (by omega)], rfl, rfl⟩
    · refine qV_iload_n (pc := 12) 2 dX6_spot_12 rfl rfl ?_
      refine qV_iconst (pc := 13) dX6_spot_13 ?_
      refine qV_icmp_le (pc := 14) 19 dX6_spot_14 (by decide) ⟨by omega, by omega⟩ ⟨by omega, by omega⟩ (fun c14 => ?_) (fun c14 => ?_)
      · have hpx : 0 ≤ x ∧ x ≤ X.1.1 := c5
        refine qV_aload_n (pc := 19) 0 dX6_spot_19 rfl rfl ?_
        refine qV_get (pc := 20) kX6 1 (le_b rfl) lk_X6_21 rfl dX6_spot_20 (by first | assumption | exact hU_self _ _ _ | (refine (hU_ne (by omega)).trans ?_; first | assumption | exact hU_self _ _ _ | (refine (hU_ne (by omega)).trans ?_; first | assumption | exact hU_self _ _ _ | (refine (hU_ne (by omega)).trans ?_; first | assumption | exact hU_self _ _ _)))) (by exact rfl) ?_
        refine qV_iconst (pc := 23) dX6_spot_23 ?_
        refine qV_iload_n (pc := 24) 1 dX6_spot_24 rfl rfl ?_
        refine qV_rdV (pc := 25) (c_ahead (w := 2) (j := x.toNat) hS rfl (by omega) (by omega) (by omega)) nX5_ahead kX5 lk_X6_112 dX6_spot_25 (by first | assumption | exact hU_self _ _ _ | (refine (hU_ne (by omega)).trans ?_; first | assumption | exact hU_self _ _ _ | (refine (hU_ne (by omega)).trans ?_; first | assumption | exact hU_self _ _ _ | (refine (hU_ne (by omega)).trans ?_; first | assumption | exact hU_self _ _ _)))) ⟨le_b rfl, le_b rfl⟩ ⟨le_b rfl, le_b rfl⟩ rfl (le_b rfl) ?_
        rw [nl_meas]
        refine qV_istore_n (pc := 28) 3 dX6_spot_28 rfl (le_b rfl) (le_b rfl) rfl ?_
        refine qV_iload_n (pc := 29) 2 dX6_spot_29 rfl rfl ?_
        refine qV_ifne (pc := 30) 35 dX6_spot_30 (by decide) ⟨by omega, by omega⟩ (fun c30 => ?_) (fun c30 => ?_)
        · refine qV_aload_n (pc := 35) 0 dX6_spot_35 rfl rfl ?_
          refine qV_get (pc := 36) kX6 1 (le_b rfl) lk_X6_21 rfl dX6_spot_36 (by first | assumption | exact hU_self _ _ _ | (refine (hU_ne (by omega)).trans ?_; first | assumption | exact hU_self _ _ _ | (refine (hU_ne (by omega)).trans ?_; first | assumption | exact hU_self _ _ _ | (refine (hU_ne (by omega)).trans ?_; first | assumption | exact hU_self _ _ _)))) (by exact rfl) ?_
          refine qV_iload_n (pc := 39) 2 dX6_spot_39 rfl rfl ?_
          refine qV_rdS (pc := 40) (v_mil ⟨q1, q2⟩) nX6_measureInLine lk_X6_118 dX6_spot_40 ⟨le_b rfl, le_b rfl⟩ ⟨le_b rfl, le_b rfl⟩ rfl (le_b rfl) ?_
          refine qV_aload_n (pc := 43) 0 dX6_spot_43 rfl rfl ?_
          refine qV_get (pc := 44) kX6 1 (le_b rfl) lk_X6_21 rfl dX6_spot_44 (by first | assumption | exact hU_self _ _ _ | (refine (hU_ne (by omega)).trans ?_; first | assumption | exact hU_self _ _ _ | (refine (hU_ne (by omega)).trans ?_; first | assumption | exact hU_self _ _ _ | (refine (hU_ne (by omega)).trans ?_; first | assumption | exact hU_self _ _ _)))) (by exact rfl) ?_
          refine qV_iload_n (pc := 47) 3 dX6_spot_47 rfl rfl ?_
          refine qV_rdV (pc := 48) (c_lineBegin (k := nl X.1.2.1 x.toNat) hS rfl (nl_mono _ (by omega))) nX5_lineBegin kX5 lk_X6_121 dX6_spot_48 (by first | assumption | exact hU_self _ _ _ | (refine (hU_ne (by omega)).trans ?_; first | assumption | exact hU_self _ _ _ | (refine (hU_ne (by omega)).trans ?_; first | assumption | exact hU_self _ _ _ | (refine (hU_ne (by omega)).trans ?_; first | assumption | exact hU_self _ _ _)))) ⟨le_b rfl, le_b rfl⟩ ⟨le_b rfl, le_b rfl⟩ rfl (le_b rfl) ?_
          refine qV_iload_n (pc := 51) 1 dX6_spot_51 rfl rfl ?_
          refine qV_rdV (pc := 52) (c_between (w := mil w) (i := lbN X.1.2.1 X.1.1 (nl X.1.2.1 x.toNat)) (j := x.toNat) hS rfl (mil_lt w) rfl (lb_spec X.1.2.1 (nl_mono _ (by omega))).1 (by omega) (by omega)) nX5_between kX5 lk_X6_124 dX6_spot_52 (by first | assumption | exact hU_self _ _ _ | (refine (hU_ne (by omega)).trans ?_; first | assumption | exact hU_self _ _ _ | (refine (hU_ne (by omega)).trans ?_; first | assumption | exact hU_self _ _ _ | (refine (hU_ne (by omega)).trans ?_; first | assumption | exact hU_self _ _ _)))) ⟨le_b rfl, le_b rfl⟩ ⟨le_b rfl, le_b rfl⟩ rfl (le_b rfl) ?_
          refine qV_iret (pc := 55) dX6_spot_55 rfl (le_b rfl) (le_b rfl) ?_
          first
          | exact ⟨by simp only [oSpot]; rw [if_pos (by omega)], rfl, rfl⟩
          | exact ⟨by simp only [oSpot]; rw [if_neg (by omega), if_pos (by omega)], rfl, rfl⟩
          | exact ⟨by simp only [oSpot]; rw [if_neg (by omega), if_neg (by omega)], rfl, rfl⟩
        · refine qV_iload_n (pc := 33) 3 dX6_spot_33 rfl rfl ?_
          refine qV_iret (pc := 34) dX6_spot_34 rfl (le_b rfl) (le_b rfl) ?_
          first
          | exact ⟨by simp only [oSpot]; rw [if_pos (by omega)], rfl, rfl⟩
          | exact ⟨by simp only [oSpot]; rw [if_neg (by omega), if_pos (by omega)], rfl, rfl⟩
          | exact ⟨by simp only [oSpot]; rw [if_neg (by omega), if_neg (by omega)], rfl, rfl⟩
      · refine qV_iconst (pc := 17) dX6_spot_17 ?_
        refine qV_iret (pc := 18) dX6_spot_18 rfl (le_b rfl) (le_b rfl) ?_
        first
        | exact ⟨by simp only [oSpot]; rw [if_pos (by omega)], rfl, rfl⟩
        | exact ⟨by simp only [oSpot]; rw [if_neg (by omega), if_pos (by omega)], rfl, rfl⟩
        | exact ⟨by simp only [oSpot]; rw [if_neg (by omega), if_neg (by omega)], rfl, rfl⟩
set_option maxRecDepth 100000 in
set_option maxHeartbeats 4000000 in
theorem v_column {x w : Int} (hx : iR x) (hw0 : iR w) (hI : CInv h sz v X) (wx : wfX X) : qRd l mX6_column [.ref v, vI x, vI w] h sz (vI (oColumn X x w)) := by
  obtain ⟨ho, hP, ⟨s0, hS⟩, ht, hg, hy, hi, hv⟩ := id hI
  obtain ⟨hp1, hpb, hpc, hpm⟩ := id hP
  obtain ⟨⟨⟨w1, w2, w3, w4, w5, w6, w7⟩, w8⟩, -⟩ := id wx
  have hs1 := hS.1
  obtain ⟨_, _, -, -, hg1, -⟩ := id hg
  obtain ⟨_, _, -, hy1, -⟩ := id hy
  obtain ⟨x1, x2⟩ := hx
  obtain ⟨q1, q2⟩ := hw0
  refine qC.of 0 (by decide) (le_b rfl) ?_
  refine qV_aload_n (pc := 0) 0 dX6_column_0 rfl rfl ?_
  refine qV_iload_n (pc := 1) 1 dX6_column_1 rfl rfl ?_
  refine qV_rdV (pc := 2) (v_isLine ⟨x1, x2⟩ hI wx) nX6_isLine kX6 lk_X6_128 dX6_column_2 (by first | assumption | exact hU_self _ _ _ | (refine (hU_ne (by omega)).trans ?_; first | assumption | exact hU_self _ _ _ | (refine (hU_ne (by omega)).trans ?_; first | assumption | exact hU_self _ _ _ | (refine (hU_ne (by omega)).trans ?_; first | assumption | exact hU_self _ _ _)))) ⟨le_b rfl, le_b rfl⟩ ⟨le_b rfl, le_b rfl⟩ rfl (le_b rfl) ?_
  refine qV_ifeqB (pc := 5) 12 dX6_column_5 (by decide) (fun c5 => ?_) (fun c5 => ?_)
  · refine qV_iconst (pc := 12) dX6_column_12 ?_
    refine qV_iret (pc := 13) dX6_column_13 rfl (le_b rfl) (le_b rfl) ?_
    first
    | exact ⟨by simp only [oColumn]; rw [if_pos (by omega)], rfl, rfl⟩
    | exact ⟨by simp only [oColumn]; rw [if_neg (by omega)], rfl, rfl⟩
  · refine qV_iload_n (pc := 8) 2 dX6_column_8 rfl rfl ?_
    refine qV_ifge (pc := 9) 14 dX6_column_9 (by decide) ⟨by omega, by omega⟩ (fun c9 => ?_) (fun c9 => ?_)
    · have hk : x.toNat ≤ nl X.1.2.1 X.1.1 := by have := c5.2; omega
      refine qV_aload_n (pc := 14) 0 dX6_column_14 rfl rfl ?_
      refine qV_get (pc := 15) kX6 1 (le_b rfl) lk_X6_21 rfl dX6_column_15 (by first | assumption | exact hU_self _ _ _ | (refine (hU_ne (by omega)).trans ?_; first | assumption | exact hU_self _ _ _ | (refine (hU_ne (by omega)).trans ?_; first | assumption | exact hU_self _ _ _ | (refine (hU_ne (by omega)).trans ?_; first | assumption | exact hU_self _ _ _)))) (by exact rfl) ?_
      refine qV_iconst (pc := 18) dX6_column_18 ?_
      refine qV_aload_n (pc := 19) 0 dX6_column_19 rfl rfl ?_
      refine qV_get (pc := 20) kX6 1 (le_b rfl) lk_X6_21 rfl dX6_column_20 (by first | assumption | exact hU_self _ _ _ | (refine (hU_ne (by omega)).trans ?_; first | assumption | exact hU_self _ _ _ | (refine (hU_ne (by omega)).trans ?_; first | assumption | exact hU_self _ _ _ | (refine (hU_ne (by omega)).trans ?_; first | assumption | exact hU_self _ _ _)))) (by exact rfl) ?_
      refine qV_iload_n (pc := 23) 1 dX6_column_23 rfl rfl ?_
      refine qV_rdV (pc := 24) (c_lineBegin (k := x.toNat) hS (by omega) hk) nX5_lineBegin kX5 lk_X6_121 dX6_column_24 (by first | assumption | exact hU_self _ _ _ | (refine (hU_ne (by omega)).trans ?_; first | assumption | exact hU_self _ _ _ | (refine (hU_ne (by omega)).trans ?_; first | assumption | exact hU_self _ _ _ | (refine (hU_ne (by omega)).trans ?_; first | assumption | exact hU_self _ _ _)))) ⟨le_b rfl, le_b rfl⟩ ⟨le_b rfl, le_b rfl⟩ rfl (le_b rfl) ?_
      refine qV_aload_n (pc := 27) 0 dX6_column_27 rfl rfl ?_
      refine qV_get (pc := 28) kX6 1 (le_b rfl) lk_X6_21 rfl dX6_column_28 (by first | assumption | exact hU_self _ _ _ | (refine (hU_ne (by omega)).trans ?_; first | assumption | exact hU_self _ _ _ | (refine (hU_ne (by omega)).trans ?_; first | assumption | exact hU_self _ _ _ | (refine (hU_ne (by omega)).trans ?_; first | assumption | exact hU_self _ _ _)))) (by exact rfl) ?_
      refine qV_iload_n (pc := 31) 1 dX6_column_31 rfl rfl ?_
      refine qV_rdV (pc := 32) (c_lineEnd (k := x.toNat) hS (by omega) hk) nX5_lineEnd kX5 lk_X6_131 dX6_column_32 (by first | assumption | exact hU_self _ _ _ | (refine (hU_ne (by omega)).trans ?_; first | assumption | exact hU_self _ _ _ | (refine (hU_ne (by omega)).trans ?_; first | assumption | exact hU_self _ _ _ | (refine (hU_ne (by omega)).trans ?_; first | assumption | exact hU_self _ _ _)))) ⟨le_b rfl, le_b rfl⟩ ⟨le_b rfl, le_b rfl⟩ rfl (le_b rfl) ?_
      refine qV_iload_n (pc := 35) 2 dX6_column_35 rfl rfl ?_
      refine qV_rdV (pc := 36) (c_farthest (w := 3) hS rfl (by omega) rfl (lnE_in hk).1 rfl (lnE_in hk).2 ⟨q1, q2⟩) nX5_farthest kX5 lk_X6_134 dX6_column_36 (by first | assumption | exact hU_self _ _ _ | (refine (hU_ne (by omega)).trans ?_; first | assumption | exact hU_self _ _ _ | (refine (hU_ne (by omega)).trans ?_; first | assumption | exact hU_self _ _ _ | (refine (hU_ne (by omega)).trans ?_; first | assumption | exact hU_self _ _ _)))) ⟨le_b rfl, le_b rfl⟩ ⟨le_b rfl, le_b rfl⟩ rfl (le_b rfl) ?_
      refine qV_iret (pc := 39) dX6_column_39 rfl (le_b rfl) (le_b rfl) ?_
      first
      | exact ⟨by simp only [oColumn]; rw [if_pos (by omega)], rfl, rfl⟩
      | exact ⟨by simp only [oColumn]; rw [if_neg (by omega)], rfl, rfl⟩
    · refine qV_iconst (pc := 12) dX6_column_12 ?_
      refine qV_iret (pc := 13) dX6_column_13 rfl (le_b rfl) (le_b rfl) ?_
      first
      | exact ⟨by simp only [oColumn]; rw [if_pos (by omega)], rfl, rfl⟩
      | exact ⟨by simp only [oColumn]; rw [if_neg (by omega)], rfl, rfl⟩
set_option maxRecDepth 100000 in
set_option maxHeartbeats 4000000 in
theorem v_line {x w : Int} (hx : iR x) (hw0 : iR w) (hI : CInv h sz v X) (wx : wfX X) : qRd l mX6_line [.ref v, vI x, vI w] h sz (vI (oLine X x w)) := by
  obtain ⟨ho, hP, ⟨s0, hS⟩, ht, hg, hy, hi, hv⟩ := id hI
  obtain ⟨hp1, hpb, hpc, hpm⟩ := id hP
  obtain ⟨⟨⟨w1, w2, w3, w4, w5, w6, w7⟩, w8⟩, -⟩ := id wx
  have hs1 := hS.1
  obtain ⟨_, _, -, -, hg1, -⟩ := id hg
  obtain ⟨_, _, -, hy1, -⟩ := id hy
  obtain ⟨x1, x2⟩ := hx
  obtain ⟨q1, q2⟩ := hw0
  refine qC.of 1 (by decide) (le_b rfl) ?_
  refine qV_aload_n (pc := 0) 0 dX6_line_0 rfl rfl ?_
  refine qV_iload_n (pc := 1) 1 dX6_line_1 rfl rfl ?_
  refine qV_rdV (pc := 2) (v_isLine ⟨x1, x2⟩ hI wx) nX6_isLine kX6 lk_X6_128 dX6_line_2 (by first | assumption | exact hU_self _ _ _ | (refine (hU_ne (by omega)).trans ?_; first | assumption | exact hU_self _ _ _ | (refine (hU_ne (by omega)).trans ?_; first | assumption | exact hU_self _ _ _ | (refine (hU_ne (by omega)).trans ?_; first | assumption | exact hU_self _ _ _)))) ⟨le_b rfl, le_b rfl⟩ ⟨le_b rfl, le_b rfl⟩ rfl (le_b rfl) ?_
  refine qV_ifeqB (pc := 5) 17 dX6_line_5 (by decide) (fun c5 => ?_) (fun c5 => ?_)
  · refine qV_iconst (pc := 17) dX6_line_17 ?_
    refine qV_iret (pc := 18) dX6_line_18 rfl (le_b rfl) (le_b rfl) ?_
    first
    | exact ⟨by simp only [oLine]; rw [if_pos (by omega)], rfl, rfl⟩
    | exact ⟨by simp only [oLine]; rw [if_neg (by omega), if_pos (by omega)], rfl, rfl⟩
    | exact ⟨by simp only [oLine]; rw [if_neg (by omega), if_neg (by omega)], rfl, rfl⟩
  · refine qV_iload_n (pc := 8) 2 dX6_line_8 rfl rfl ?_
    refine qV_iflt (pc := 9) 17 dX6_line_9 (by decide) ⟨by omega, by omega⟩ (fun c9 => ?_) (fun c9 => ?_)
    · refine qV_iconst (pc := 17) dX6_line_17 ?_
      refine qV_iret (pc := 18) dX6_line_18 rfl (le_b rfl) (le_b rfl) ?_
      first
      | exact ⟨by simp only [oLine]; rw [if_pos (by omega)], rfl, rfl⟩
      | exact ⟨by simp only [oLine]; rw [if_neg (by omega), if_pos (by omega)], rfl, rfl⟩
      | exact ⟨by simp only [oLine]; rw [if_neg (by omega), if_neg (by omega)], rfl, rfl⟩
    · refine qV_iload_n (pc := 12) 2 dX6_line_12 rfl rfl ?_
      refine qV_iconst (pc := 13) dX6_line_13 ?_
      refine qV_icmp_le (pc := 14) 19 dX6_line_14 (by decide) ⟨by omega, by omega⟩ ⟨by omega, by omega⟩ (fun c14 => ?_) (fun c14 => ?_)
      · have hk : x.toNat ≤ nl X.1.2.1 X.1.1 := by have := c5.2; omega
        refine qV_aload_n (pc := 19) 0 dX6_line_19 rfl rfl ?_
        refine qV_get (pc := 20) kX6 1 (le_b rfl) lk_X6_21 rfl dX6_line_20 (by first | assumption | exact hU_self _ _ _ | (refine (hU_ne (by omega)).trans ?_; first | assumption | exact hU_self _ _ _ | (refine (hU_ne (by omega)).trans ?_; first | assumption | exact hU_self _ _ _ | (refine (hU_ne (by omega)).trans ?_; first | assumption | exact hU_self _ _ _)))) (by exact rfl) ?_
        refine qV_iload_n (pc := 23) 1 dX6_line_23 rfl rfl ?_
        refine qV_rdV (pc := 24) (c_lineBegin (k := x.toNat) hS (by omega) hk) nX5_lineBegin kX5 lk_X6_121 dX6_line_24 (by first | assumption | exact hU_self _ _ _ | (refine (hU_ne (by omega)).trans ?_; first | assumption | exact hU_self _ _ _ | (refine (hU_ne (by omega)).trans ?_; first | assumption | exact hU_self _ _ _ | (refine (hU_ne (by omega)).trans ?_; first | assumption | exact hU_self _ _ _)))) ⟨le_b rfl, le_b rfl⟩ ⟨le_b rfl, le_b rfl⟩ rfl (le_b rfl) ?_
        refine qV_istore_n (pc := 27) 3 dX6_line_27 rfl (le_b rfl) (le_b rfl) rfl ?_
        refine qV_iload_n (pc := 28) 2 dX6_line_28 rfl rfl ?_
        refine qV_ifne (pc := 29) 34 dX6_line_29 (by decide) ⟨by omega, by omega⟩ (fun c29 => ?_) (fun c29 => ?_)
        · refine qV_aload_n (pc := 34) 0 dX6_line_34 rfl rfl ?_
          refine qV_get (pc := 35) kX6 1 (le_b rfl) lk_X6_21 rfl dX6_line_35 (by first | assumption | exact hU_self _ _ _ | (refine (hU_ne (by omega)).trans ?_; first | assumption | exact hU_self _ _ _ | (refine (hU_ne (by omega)).trans ?_; first | assumption | exact hU_self _ _ _ | (refine (hU_ne (by omega)).trans ?_; first | assumption | exact hU_self _ _ _)))) (by exact rfl) ?_
          refine qV_iload_n (pc := 38) 2 dX6_line_38 rfl rfl ?_
          refine qV_rdS (pc := 39) (v_mil ⟨q1, q2⟩) nX6_measureInLine lk_X6_118 dX6_line_39 ⟨le_b rfl, le_b rfl⟩ ⟨le_b rfl, le_b rfl⟩ rfl (le_b rfl) ?_
          refine qV_iload_n (pc := 42) 3 dX6_line_42 rfl rfl ?_
          refine qV_aload_n (pc := 43) 0 dX6_line_43 rfl rfl ?_
          refine qV_get (pc := 44) kX6 1 (le_b rfl) lk_X6_21 rfl dX6_line_44 (by first | assumption | exact hU_self _ _ _ | (refine (hU_ne (by omega)).trans ?_; first | assumption | exact hU_self _ _ _ | (refine (hU_ne (by omega)).trans ?_; first | assumption | exact hU_self _ _ _ | (refine (hU_ne (by omega)).trans ?_; first | assumption | exact hU_self _ _ _)))) (by exact rfl) ?_
          refine qV_iload_n (pc := 47) 1 dX6_line_47 rfl rfl ?_
          refine qV_rdV (pc := 48) (c_lineEnd (k := x.toNat) hS (by omega) hk) nX5_lineEnd kX5 lk_X6_131 dX6_line_48 (by first | assumption | exact hU_self _ _ _ | (refine (hU_ne (by omega)).trans ?_; first | assumption | exact hU_self _ _ _ | (refine (hU_ne (by omega)).trans ?_; first | assumption | exact hU_self _ _ _ | (refine (hU_ne (by omega)).trans ?_; first | assumption | exact hU_self _ _ _)))) ⟨le_b rfl, le_b rfl⟩ ⟨le_b rfl, le_b rfl⟩ rfl (le_b rfl) ?_
          refine qV_rdV (pc := 51) (c_between (w := mil w) hS rfl (mil_lt w) rfl (lb_spec X.1.2.1 hk).1 rfl (lnE_in hk).2) nX5_between kX5 lk_X6_124 dX6_line_51 (by first | assumption | exact hU_self _ _ _ | (refine (hU_ne (by omega)).trans ?_; first | assumption | exact hU_self _ _ _ | (refine (hU_ne (by omega)).trans ?_; first | assumption | exact hU_self _ _ _ | (refine (hU_ne (by omega)).trans ?_; first | assumption | exact hU_self _ _ _)))) ⟨le_b rfl, le_b rfl⟩ ⟨le_b rfl, le_b rfl⟩ rfl (le_b rfl) ?_
          refine qV_iret (pc := 54) dX6_line_54 rfl (le_b rfl) (le_b rfl) ?_
          first
          | exact ⟨by simp only [oLine]; rw [if_pos (by omega)], rfl, rfl⟩
          | exact ⟨by simp only [oLine]; rw [if_neg (by omega), if_pos (by omega)], rfl, rfl⟩
          | exact ⟨by simp only [oLine]; rw [if_neg (by omega), if_neg (by omega)], rfl, rfl⟩
        · refine qV_iload_n (pc := 32) 3 dX6_line_32 rfl rfl ?_
          refine qV_iret (pc := 33) dX6_line_33 rfl (le_b rfl) (le_b rfl) ?_
          first
          | exact ⟨by simp only [oLine]; rw [if_pos (by omega)], rfl, rfl⟩
          | exact ⟨by simp only [oLine]; rw [if_neg (by omega), if_pos (by omega)], rfl, rfl⟩
          | exact ⟨by simp only [oLine]; rw [if_neg (by omega), if_neg (by omega)], rfl, rfl⟩
      · refine qV_iconst (pc := 17) dX6_line_17 ?_
        refine qV_iret (pc := 18) dX6_line_18 rfl (le_b rfl) (le_b rfl) ?_
        first
        | exact ⟨by simp only [oLine]; rw [if_pos (by omega)], rfl, rfl⟩
        | exact ⟨by simp only [oLine]; rw [if_neg (by omega), if_pos (by omega)], rfl, rfl⟩
        | exact ⟨by simp only [oLine]; rw [if_neg (by omega), if_neg (by omega)], rfl, rfl⟩
set_option maxRecDepth 100000 in
set_option maxHeartbeats 4000000 in
theorem v_wide {x : Int} (hx : iR x) (hI : CInv h sz v X) (wx : wfX X) : qRt l mX6_wide 0 0 [.ref v, vI x] h sz (fun w h' sz' => w = vI (oWide X x) ∧ CInv h' sz' v X ∧ Kp h h' v ∧ sz' = sz) := by
  obtain ⟨ho, hP, ⟨s0, hS⟩, ht, hg, hy, hi, hv⟩ := id hI
  obtain ⟨hp1, hpb, hpc, hpm⟩ := id hP
  obtain ⟨⟨⟨w1, w2, w3, w4, w5, w6, w7⟩, w8⟩, -⟩ := id wx
  have hs1 := hS.1
  obtain ⟨_, _, -, -, hg1, -⟩ := id hg
  obtain ⟨_, _, -, hy1, -⟩ := id hy
  obtain ⟨x1, x2⟩ := hx
  refine qC.of 0 (by decide) (le_b rfl) ?_
  refine qV_aload_n (pc := 0) 0 dX6_wide_0 rfl rfl ?_
  refine qV_iload_n (pc := 1) 1 dX6_wide_1 rfl rfl ?_
  refine qV_rdV (pc := 2) (v_isLine ⟨x1, x2⟩ hI wx) nX6_isLine kX6 lk_X6_128 dX6_wide_2 (by first | assumption | exact hU_self _ _ _ | (refine (hU_ne (by omega)).trans ?_; first | assumption | exact hU_self _ _ _ | (refine (hU_ne (by omega)).trans ?_; first | assumption | exact hU_self _ _ _ | (refine (hU_ne (by omega)).trans ?_; first | assumption | exact hU_self _ _ _)))) ⟨le_b rfl, le_b rfl⟩ ⟨le_b rfl, le_b rfl⟩ rfl (le_b rfl) ?_
  refine qV_ifneB (pc := 5) 10 dX6_wide_5 (by decide) (fun c5 => ?_) (fun c5 => ?_)
  · have hk : x.toNat ≤ nl X.1.2.1 X.1.1 := by have := c5.2; omega
    refine qV_aload_n (pc := 10) 0 dX6_wide_10 rfl rfl ?_
    refine qV_get (pc := 11) kX6 1 (le_b rfl) lk_X6_21 rfl dX6_wide_11 (by first | assumption | exact hU_self _ _ _ | (refine (hU_ne (by omega)).trans ?_; first | assumption | exact hU_self _ _ _ | (refine (hU_ne (by omega)).trans ?_; first | assumption | exact hU_self _ _ _ | (refine (hU_ne (by omega)).trans ?_; first | assumption | exact hU_self _ _ _)))) (by exact rfl) ?_
    refine qV_iload_n (pc := 14) 1 dX6_wide_14 rfl rfl ?_
    refine qV_rtV (pc := 15) (c_lineByWidth (k := x.toNat) hS (by omega) hk) nX5_lineByWidth kX5 lk_X6_138 dX6_wide_15 (by first | assumption | exact hU_self _ _ _ | (refine (hU_ne (by omega)).trans ?_; first | assumption | exact hU_self _ _ _ | (refine (hU_ne (by omega)).trans ?_; first | assumption | exact hU_self _ _ _ | (refine (hU_ne (by omega)).trans ?_; first | assumption | exact hU_self _ _ _)))) ⟨le_b rfl, le_b rfl⟩ ⟨le_b rfl, le_b rfl⟩ rfl (le_b rfl) ?_
    rintro w h2 sz ⟨⟨xs, x3, rfl⟩, s2, f2, rfl⟩
    have hI2 : CInv h2 sz v X := ⟨(f2 _ (by omega)).trans ho, hP.fr f2 (by omega), ⟨1, s2⟩, ht.fr f2 (by omega), hg.fr f2 (by omega), hy.fr f2 (by omega), hi.fr f2 (by omega), hv⟩
    refine qV_iret (pc := 18) dX6_wide_18 rfl (le_b rfl) (le_b rfl) ?_
    first
    | exact ⟨_, rfl, by simp only [oWide]; rw [if_pos c5], hI, Kp.rf, rfl⟩
    | exact ⟨_, rfl, by simp only [oWide]; rw [if_neg (fun z => z c5), fnd_srt x3 (by omega) _ (Nat.le_refl _) (x3.lt (by omega))], hI2, Kp.of f2 (by omega), rfl⟩
  · refine qV_iconst (pc := 8) dX6_wide_8 ?_
    refine qV_iret (pc := 9) dX6_wide_9 rfl (le_b rfl) (le_b rfl) ?_
    first
    | exact ⟨_, rfl, by simp only [oWide]; rw [if_pos c5], hI, Kp.rf, rfl⟩
    | exact ⟨_, rfl, by simp only [oWide]; rw [if_neg (fun z => z c5), fnd_srt x3 (by omega) _ (Nat.le_refl _) (x3.lt (by omega))], hI2, Kp.of f2 (by omega), rfl⟩
theorem wpr_in (T : Nat → Int) (b : Nat) : ∀ d, 0 ≤ (wpr T b d).1 ∧ (wpr T b d).1 ≤ 2 * d ∧ 0 ≤ (wpr T b d).2 ∧ (wpr T b d).2 ≤ 2 * d
  | 0 => by simp [wpr]
  | d + 1 => by
    have h1 := wpr_in T b d
    have h2 := hasM_in (T (b + d)) 3
    simp only [wpr]
    split <;> omega
set_option maxRecDepth 100000 in
set_option maxHeartbeats 4000000 in
theorem wpart_loop {b e : Nat} (hI : CInv h sz v X) (wx : wfX X) (hbe : b + e ≤ X.1.1) : ∀ (m d pb : Nat) (q r z : Int), e + 1 - d = m → d ≤ e → q = (b + d : Nat) → r = pb → b ≤ pb → pb ≤ b + d → measM X.1.2.1 3 (b + d) - measM X.1.2.1 3 pb = (wpr X.1.2.1 b d).1 → 0 ≤ z → z ≤ 1000 → (wpr X.1.2.1 b d).2 = max z (wpr X.1.2.1 b d).1 → qVM l mX6_widestPart 0 0 h sz (fun v h' sz' => v = some (vI (wpr X.1.2.1 b e).2) ∧ h' = h ∧ sz' = sz) 0 0 h sz 8 [some (.ref v), some (vI b), some (vI (b + e : Nat)), some (vI z), some (vI r), some (vI q)] [] := by
  obtain ⟨ho, hP, ⟨s0, hS⟩, ht, hg, hy, hi, hv⟩ := id hI
  obtain ⟨hp1, hpb, hpc, hpm⟩ := id hP
  obtain ⟨⟨⟨w1, w2, w3, w4, w5, w6, w7⟩, w8⟩, -⟩ := id wx
  have hs1 := hS.1
  obtain ⟨_, _, -, -, hg1, -⟩ := id hg
  obtain ⟨_, _, -, hy1, -⟩ := id hy
  intro m
  induction m with
  | zero => intro d pb q r z hm hd; omega
  | succ m ih =>
    intro d pb q r z hm hd hq hr hb1 hb2 hc hz0 hz hw
    have i1 := wpr_in X.1.2.1 b d
    have m1 := measM_in X.1.2.1 3 (b + d)
    have m2 := measM_in X.1.2.1 3 pb
    by_cases he : d = e
    · subst he
      refine qV_iload (pc := 8) 5 dX6_widestPart_8 rfl ?_
      refine qV_iload_n (pc := 10) 2 dX6_widestPart_10 rfl rfl ?_
      refine qV_icmp_gt (pc := 11) 66 dX6_widestPart_11 (by decide) ⟨by omega, by omega⟩ ⟨by omega, by omega⟩ (fun c11 => ?_) (fun c11 => ?_)
      · exfalso; omega
      · refine qV_iload (pc := 14) 5 dX6_widestPart_14 rfl ?_
        refine qV_iload_n (pc := 16) 2 dX6_widestPart_16 rfl rfl ?_
        refine qV_icmp_eq (pc := 17) 37 dX6_widestPart_17 (by decide) ⟨by omega, by omega⟩ ⟨by omega, by omega⟩ (fun c17 => ?_) (fun c17 => ?_)
        · refine qV_iload_n (pc := 37) 3 dX6_widestPart_37 rfl rfl ?_
          refine qV_aload_n (pc := 38) 0 dX6_widestPart_38 rfl rfl ?_
          refine qV_get (pc := 39) kX6 1 (le_b rfl) lk_X6_21 rfl dX6_widestPart_39 (by first | assumption | exact hU_self _ _ _ | (refine (hU_ne (by omega)).trans ?_; first | assumption | exact hU_self _ _ _ | (refine (hU_ne (by omega)).trans ?_; first | assumption | exact hU_self _ _ _ | (refine (hU_ne (by omega)).trans ?_; first | assumption | exact hU_self _ _ _)))) (by exact rfl) ?_
          refine qV_iconst (pc := 42) dX6_widestPart_42 ?_
          refine qV_iload (pc := 43) 4 dX6_widestPart_43 rfl ?_
          refine qV_iload (pc := 45) 5 dX6_widestPart_45 rfl ?_
          refine qV_rdV (pc := 47) (c_between (w := 3) (i := pb) (j := b + d) hS rfl (by omega) hr (by omega) hq (by omega)) nX5_between kX5 lk_X6_124 dX6_widestPart_47 (by first | assumption | exact hU_self _ _ _ | (refine (hU_ne (by omega)).trans ?_; first | assumption | exact hU_self _ _ _ | (refine (hU_ne (by omega)).trans ?_; first | assumption | exact hU_self _ _ _ | (refine (hU_ne (by omega)).trans ?_; first | assumption | exact hU_self _ _ _)))) ⟨le_b rfl, le_b rfl⟩ ⟨le_b rfl, le_b rfl⟩ rfl (le_b rfl) ?_
          refine qV_max (pc := 50) lk_X6_193 dX6_widestPart_50 ⟨by omega, by omega⟩ ⟨by omega, by omega⟩ (le_b rfl) ⟨le_b rfl, le_b rfl⟩ (le_b rfl) ?_
          refine qV_istore_n (pc := 53) 3 dX6_widestPart_53 rfl (le_b rfl) (le_b rfl) rfl ?_
          refine qV_iload (pc := 54) 5 dX6_widestPart_54 rfl ?_
          refine qV_iconst (pc := 56) dX6_widestPart_56 ?_
          refine qV_iadd (pc := 57) dX6_widestPart_57 ?_
          refine qV_istore (pc := 58) 4 dX6_widestPart_58 (le_b rfl) (le_b rfl) rfl ?_
          refine qV_iinc (pc := 60) 5 dX6_widestPart_60 rfl (le_b rfl) (le_b rfl) rfl ?_
          refine qV_goto (pc := 63) 8 dX6_widestPart_63 (by decide) ?_
          rw [hc]
          refine qV_iload (pc := 8) 5 dX6_widestPart_8 rfl ?_
          refine qV_iload_n (pc := 10) 2 dX6_widestPart_10 rfl rfl ?_
          refine qV_icmp_gt (pc := 11) 66 dX6_widestPart_11 (by decide) ⟨by omega, by omega⟩ ⟨by omega, by omega⟩ (fun c11 => ?_) (fun c11 => ?_)
          · refine qV_iload_n (pc := 66) 3 dX6_widestPart_66 rfl rfl ?_
            refine qV_iret (pc := 67) dX6_widestPart_67 rfl (le_b rfl) (le_b rfl) ?_
            exact ⟨by rw [hw], rfl, rfl⟩
          · exfalso; omega
        · exfalso; omega
    · have t := w2 (b + d) (by omega)
      refine qV_iload (pc := 8) 5 dX6_widestPart_8 rfl ?_
      refine qV_iload_n (pc := 10) 2 dX6_widestPart_10 rfl rfl ?_
      refine qV_icmp_gt (pc := 11) 66 dX6_widestPart_11 (by decide) ⟨by omega, by omega⟩ ⟨by omega, by omega⟩ (fun c11 => ?_) (fun c11 => ?_)
      · exfalso; omega
      · refine qV_iload (pc := 14) 5 dX6_widestPart_14 rfl ?_
        refine qV_iload_n (pc := 16) 2 dX6_widestPart_16 rfl rfl ?_
        refine qV_icmp_eq (pc := 17) 37 dX6_widestPart_17 (by decide) ⟨by omega, by omega⟩ ⟨by omega, by omega⟩ (fun c17 => ?_) (fun c17 => ?_)
        · exfalso; omega
        · refine qV_aload_n (pc := 20) 0 dX6_widestPart_20 rfl rfl ?_
          refine qV_get (pc := 21) kX6 0 (le_b rfl) lk_X6_14 rfl dX6_widestPart_21 (by first | assumption | exact hU_self _ _ _ | (refine (hU_ne (by omega)).trans ?_; first | assumption | exact hU_self _ _ _ | (refine (hU_ne (by omega)).trans ?_; first | assumption | exact hU_self _ _ _ | (refine (hU_ne (by omega)).trans ?_; first | assumption | exact hU_self _ _ _)))) (by exact rfl) ?_
          refine qV_get (pc := 24) kX2 0 (le_b rfl) lk_X6_65 rfl dX6_widestPart_24 (by first | assumption | exact hU_self _ _ _ | (refine (hU_ne (by omega)).trans ?_; first | assumption | exact hU_self _ _ _ | (refine (hU_ne (by omega)).trans ?_; first | assumption | exact hU_self _ _ _ | (refine (hU_ne (by omega)).trans ?_; first | assumption | exact hU_self _ _ _)))) (by exact rfl) ?_
          refine qV_iload (pc := 27) 5 dX6_widestPart_27 rfl ?_
          refine qV_rdV (pc := 29) (c_gt hpb (i := b + d) hq (by omega)) nX3_get kX3 lk_X6_97 dX6_widestPart_29 hpb.obj ⟨le_b rfl, le_b rfl⟩ ⟨le_b rfl, le_b rfl⟩ rfl (le_b rfl) ?_
          refine qV_bipush (pc := 32) dX6_widestPart_32 rfl ?_
          refine qV_icmp_ne (pc := 34) 60 dX6_widestPart_34 (by decide) ⟨by omega, by omega⟩ ⟨by omega, by omega⟩ (fun c34 => ?_) (fun c34 => ?_)
          · refine qV_iinc (pc := 60) 5 dX6_widestPart_60 rfl (le_b rfl) (le_b rfl) rfl ?_
            refine qV_goto (pc := 63) 8 dX6_widestPart_63 (by decide) ?_
            first
            | (have hh := hasM_in (X.1.2.1 (b + d)) 3
               refine ih (d + 1) pb _ r z (by omega) (by omega) (by omega) hr hb1 (by omega) ?_ hz0 hz ?_
               · rw [show b + (d + 1) = b + d + 1 by omega, measM_succ]
                 simp only [wpr]
                 rw [if_neg c34]
                 omega
               · simp only [wpr]
                 rw [if_neg c34]
                 omega)
            | (rw [hc]
               refine ih (d + 1) (b + d + 1) _ _ _ (by omega) (by omega) (by omega) (by omega) (by omega) (by omega) ?_ (by omega) (by omega) ?_
               · rw [show b + (d + 1) = b + d + 1 by omega]
                 simp only [wpr]
                 rw [if_pos c34]
                 omega
               · simp only [wpr]
                 rw [if_pos c34]
                 omega)
          · refine qV_iload_n (pc := 37) 3 dX6_widestPart_37 rfl rfl ?_
            refine qV_aload_n (pc := 38) 0 dX6_widestPart_38 rfl rfl ?_
            refine qV_get (pc := 39) kX6 1 (le_b rfl) lk_X6_21 rfl dX6_widestPart_39 (by first | assumption | exact hU_self _ _ _ | (refine (hU_ne (by omega)).trans ?_; first | assumption | exact hU_self _ _ _ | (refine (hU_ne (by omega)).trans ?_; first | assumption | exact hU_self _ _ _ | (refine (hU_ne (by omega)).trans ?_; first | assumption | exact hU_self _ _ _)))) (by exact rfl) ?_
            refine qV_iconst (pc := 42) dX6_widestPart_42 ?_
            refine qV_iload (pc := 43) 4 dX6_widestPart_43 rfl ?_
            refine qV_iload (pc := 45) 5 dX6_widestPart_45 rfl ?_
            refine qV_rdV (pc := 47) (c_between (w := 3) (i := pb) (j := b + d) hS rfl (by omega) hr (by omega) hq (by omega)) nX5_between kX5 lk_X6_124 dX6_widestPart_47 (by first | assumption | exact hU_self _ _ _ | (refine (hU_ne (by omega)).trans ?_; first | assumption | exact hU_self _ _ _ | (refine (hU_ne (by omega)).trans ?_; first | assumption | exact hU_self _ _ _ | (refine (hU_ne (by omega)).trans ?_; first | assumption | exact hU_self _ _ _)))) ⟨le_b rfl, le_b rfl⟩ ⟨le_b rfl, le_b rfl⟩ rfl (le_b rfl) ?_
            refine qV_max (pc := 50) lk_X6_193 dX6_widestPart_50 ⟨by omega, by omega⟩ ⟨by omega, by omega⟩ (le_b rfl) ⟨le_b rfl, le_b rfl⟩ (le_b rfl) ?_
            refine qV_istore_n (pc := 53) 3 dX6_widestPart_53 rfl (le_b rfl) (le_b rfl) rfl ?_
            refine qV_iload (pc := 54) 5 dX6_widestPart_54 rfl ?_
            refine qV_iconst (pc := 56) dX6_widestPart_56 ?_
            refine qV_iadd (pc := 57) dX6_widestPart_57 ?_
            refine qV_istore (pc := 58) 4 dX6_widestPart_58 (le_b rfl) (le_b rfl) rfl ?_
            refine qV_iinc (pc := 60) 5 dX6_widestPart_60 rfl (le_b rfl) (le_b rfl) rfl ?_
            refine qV_goto (pc := 63) 8 dX6_widestPart_63 (by decide) ?_
            first
            | (have hh := hasM_in (X.1.2.1 (b + d)) 3
               refine ih (d + 1) pb _ r z (by omega) (by omega) (by omega) hr hb1 (by omega) ?_ hz0 hz ?_
               · rw [show b + (d + 1) = b + d + 1 by omega, measM_succ]
                 simp only [wpr]
                 rw [if_neg c34]
                 omega
               · simp only [wpr]
                 rw [if_neg c34]
                 omega)
            | (rw [hc]
               refine ih (d + 1) (b + d + 1) _ _ _ (by omega) (by omega) (by omega) (by omega) (by omega) (by omega) ?_ (by omega) (by omega) ?_
               · rw [show b + (d + 1) = b + d + 1 by omega]
                 simp only [wpr]
                 rw [if_pos c34]
                 omega
               · simp only [wpr]
                 rw [if_pos c34]
                 omega)
set_option maxRecDepth 100000 in
set_option maxHeartbeats 4000000 in
theorem v_widestPart {p q : Int} {b e : Nat} (hI : CInv h sz v X) (wx : wfX X) (hp : p = b) (hq : q = (b + e : Nat)) (hbe : b + e ≤ X.1.1) : qRd l mX6_widestPart [.ref v, vI p, vI q] h sz (vI (wpr X.1.2.1 b e).2) := by
  subst hp; subst hq
  refine qC.of 3 (by decide) (le_b rfl) ?_
  refine qV_iconst (pc := 0) dX6_widestPart_0 ?_
  refine qV_istore_n (pc := 1) 3 dX6_widestPart_1 rfl (le_b rfl) (le_b rfl) rfl ?_
  refine qV_iload_n (pc := 2) 1 dX6_widestPart_2 rfl rfl ?_
  refine qV_istore (pc := 3) 4 dX6_widestPart_3 (le_b rfl) (le_b rfl) rfl ?_
  refine qV_iload_n (pc := 5) 1 dX6_widestPart_5 rfl rfl ?_
  refine qV_istore (pc := 6) 5 dX6_widestPart_6 (le_b rfl) (le_b rfl) rfl ?_
  exact wpart_loop hI wx hbe (e + 1) 0 b _ _ _ (by omega) (by omega) rfl rfl (Nat.le_refl b) (Nat.le_refl _) (by simp [wpr]) (by omega) (by omega) (by simp [wpr])
set_option maxRecDepth 100000 in
set_option maxHeartbeats 4000000 in
theorem v_chunk {x w : Int} (hx : iR x) (hw0 : iR w) (hI : CInv h sz v X) (wx : wfX X) : qRd l mX6_chunk [.ref v, vI x, vI w] h sz (vI (oChunk X x w)) := by
  obtain ⟨ho, hP, ⟨s0, hS⟩, ht, hg, hy, hi, hv⟩ := id hI
  obtain ⟨hp1, hpb, hpc, hpm⟩ := id hP
  obtain ⟨⟨⟨w1, w2, w3, w4, w5, w6, w7⟩, w8⟩, -⟩ := id wx
  have hs1 := hS.1
  obtain ⟨_, _, -, -, hg1, -⟩ := id hg
  obtain ⟨_, _, -, hy1, -⟩ := id hy
  obtain ⟨x1, x2⟩ := hx
  obtain ⟨q1, q2⟩ := hw0
  have hle := hpc.le
  have hC : ∀ j, j < X.1.2.2.1 → 0 ≤ X.1.2.2.2.1 j := fun j hj => by have := w3 j hj; omega
  refine qC.of 2 (by decide) (le_b rfl) ?_
  refine qV_iload_n (pc := 0) 1 dX6_chunk_0 rfl rfl ?_
  refine qV_iflt (pc := 1) 27 dX6_chunk_1 (by decide) ⟨by omega, by omega⟩ (fun c1 => ?_) (fun c1 => ?_)
  · refine qV_iconst (pc := 27) dX6_chunk_27 ?_
    refine qV_iret (pc := 28) dX6_chunk_28 rfl (le_b rfl) (le_b rfl) ?_
    first
    | exact ⟨by simp only [oChunk]; rw [if_pos (by omega)], rfl, rfl⟩
    | exact ⟨by simp only [oChunk]; rw [if_neg (by omega), if_pos (by omega)], rfl, rfl⟩
    | exact ⟨by simp only [oChunk]; rw [if_neg (by omega), if_neg (by omega)], rfl, rfl⟩
  · refine qV_iload_n (pc := 4) 1 dX6_chunk_4 rfl rfl ?_
    refine qV_aload_n (pc := 5) 0 dX6_chunk_5 rfl rfl ?_
    refine qV_get (pc := 6) kX6 0 (le_b rfl) lk_X6_14 rfl dX6_chunk_6 (by first | assumption | exact hU_self _ _ _ | (refine (hU_ne (by omega)).trans ?_; first | assumption | exact hU_self _ _ _ | (refine (hU_ne (by omega)).trans ?_; first | assumption | exact hU_self _ _ _ | (refine (hU_ne (by omega)).trans ?_; first | assumption | exact hU_self _ _ _)))) (by exact rfl) ?_
    refine qV_get (pc := 9) kX2 1 (le_b rfl) lk_X6_141 rfl dX6_chunk_9 (by first | assumption | exact hU_self _ _ _ | (refine (hU_ne (by omega)).trans ?_; first | assumption | exact hU_self _ _ _ | (refine (hU_ne (by omega)).trans ?_; first | assumption | exact hU_self _ _ _ | (refine (hU_ne (by omega)).trans ?_; first | assumption | exact hU_self _ _ _)))) (by exact rfl) ?_
    refine qV_rdV (pc := 12) (c_size hpc) nX3_size kX3 lk_X6_50 dX6_chunk_12 hpc.obj ⟨le_b rfl, le_b rfl⟩ ⟨le_b rfl, le_b rfl⟩ rfl (le_b rfl) ?_
    refine qV_icmp_ge (pc := 15) 27 dX6_chunk_15 (by decide) ⟨by omega, by omega⟩ ⟨by omega, by omega⟩ (fun c15 => ?_) (fun c15 => ?_)
    · refine qV_iconst (pc := 27) dX6_chunk_27 ?_
      refine qV_iret (pc := 28) dX6_chunk_28 rfl (le_b rfl) (le_b rfl) ?_
      first
      | exact ⟨by simp only [oChunk]; rw [if_pos (by omega)], rfl, rfl⟩
      | exact ⟨by simp only [oChunk]; rw [if_neg (by omega), if_pos (by omega)], rfl, rfl⟩
      | exact ⟨by simp only [oChunk]; rw [if_neg (by omega), if_neg (by omega)], rfl, rfl⟩
    · refine qV_iload_n (pc := 18) 2 dX6_chunk_18 rfl rfl ?_
      refine qV_iflt (pc := 19) 27 dX6_chunk_19 (by decide) ⟨by omega, by omega⟩ (fun c19 => ?_) (fun c19 => ?_)
      · refine qV_iconst (pc := 27) dX6_chunk_27 ?_
        refine qV_iret (pc := 28) dX6_chunk_28 rfl (le_b rfl) (le_b rfl) ?_
        first
        | exact ⟨by simp only [oChunk]; rw [if_pos (by omega)], rfl, rfl⟩
        | exact ⟨by simp only [oChunk]; rw [if_neg (by omega), if_pos (by omega)], rfl, rfl⟩
        | exact ⟨by simp only [oChunk]; rw [if_neg (by omega), if_neg (by omega)], rfl, rfl⟩
      · refine qV_iload_n (pc := 22) 2 dX6_chunk_22 rfl rfl ?_
        refine qV_iconst (pc := 23) dX6_chunk_23 ?_
        refine qV_icmp_le (pc := 24) 29 dX6_chunk_24 (by decide) ⟨by omega, by omega⟩ ⟨by omega, by omega⟩ (fun c24 => ?_) (fun c24 => ?_)
        · have hxx : x.toNat < X.1.2.2.1 := by omega
          have s1 := csum_nn hC (b := x.toNat) (by omega)
          have s2 := csum_mono hC (a := x.toNat + 1) (b := X.1.2.2.1) (by omega) (Nat.le_refl _)
          have s3 := csum_succ X.1.2.2.2.1 x.toNat
          have s4 := hC x.toNat hxx
          refine qV_aload_n (pc := 29) 0 dX6_chunk_29 rfl rfl ?_
          refine qV_get (pc := 30) kX6 0 (le_b rfl) lk_X6_14 rfl dX6_chunk_30 (by first | assumption | exact hU_self _ _ _ | (refine (hU_ne (by omega)).trans ?_; first | assumption | exact hU_self _ _ _ | (refine (hU_ne (by omega)).trans ?_; first | assumption | exact hU_self _ _ _ | (refine (hU_ne (by omega)).trans ?_; first | assumption | exact hU_self _ _ _)))) (by exact rfl) ?_
          refine qV_iload_n (pc := 33) 1 dX6_chunk_33 rfl rfl ?_
          refine qV_rdV (pc := 34) (c_chunkBegin (k := x.toNat) hP (by omega) (by omega)) nX2_chunkBegin kX2 lk_X6_144 dX6_chunk_34 (by first | assumption | exact hU_self _ _ _ | (refine (hU_ne (by omega)).trans ?_; first | assumption | exact hU_self _ _ _ | (refine (hU_ne (by omega)).trans ?_; first | assumption | exact hU_self _ _ _ | (refine (hU_ne (by omega)).trans ?_; first | assumption | exact hU_self _ _ _)))) ⟨le_b rfl, le_b rfl⟩ ⟨le_b rfl, le_b rfl⟩ rfl (le_b rfl) ?_
          refine qV_istore_n (pc := 37) 3 dX6_chunk_37 rfl (le_b rfl) (le_b rfl) rfl ?_
          refine qV_iload_n (pc := 38) 3 dX6_chunk_38 rfl rfl ?_
          refine qV_aload_n (pc := 39) 0 dX6_chunk_39 rfl rfl ?_
          refine qV_get (pc := 40) kX6 0 (le_b rfl) lk_X6_14 rfl dX6_chunk_40 (by first | assumption | exact hU_self _ _ _ | (refine (hU_ne (by omega)).trans ?_; first | assumption | exact hU_self _ _ _ | (refine (hU_ne (by omega)).trans ?_; first | assumption | exact hU_self _ _ _ | (refine (hU_ne (by omega)).trans ?_; first | assumption | exact hU_self _ _ _)))) (by exact rfl) ?_
          refine qV_get (pc := 43) kX2 1 (le_b rfl) lk_X6_141 rfl dX6_chunk_43 (by first | assumption | exact hU_self _ _ _ | (refine (hU_ne (by omega)).trans ?_; first | assumption | exact hU_self _ _ _ | (refine (hU_ne (by omega)).trans ?_; first | assumption | exact hU_self _ _ _ | (refine (hU_ne (by omega)).trans ?_; first | assumption | exact hU_self _ _ _)))) (by exact rfl) ?_
          refine qV_iload_n (pc := 46) 1 dX6_chunk_46 rfl rfl ?_
          refine qV_rdV (pc := 47) (c_gt hpc (i := x.toNat) (by omega) (by omega)) nX3_get kX3 lk_X6_97 dX6_chunk_47 hpc.obj ⟨le_b rfl, le_b rfl⟩ ⟨le_b rfl, le_b rfl⟩ rfl (le_b rfl) ?_
          refine qV_iadd (pc := 50) dX6_chunk_50 ?_
          refine qV_istore (pc := 51) 4 dX6_chunk_51 (le_b rfl) (le_b rfl) rfl ?_
          refine qV_iload_n (pc := 53) 2 dX6_chunk_53 rfl rfl ?_
          refine qV_iconst (pc := 54) dX6_chunk_54 ?_
          refine qV_icmp_ne (pc := 55) 66 dX6_chunk_55 (by decide) ⟨by omega, by omega⟩ ⟨by omega, by omega⟩ (fun c55 => ?_) (fun c55 => ?_)
          · refine qV_aload_n (pc := 66) 0 dX6_chunk_66 rfl rfl ?_
            refine qV_get (pc := 67) kX6 1 (le_b rfl) lk_X6_21 rfl dX6_chunk_67 (by first | assumption | exact hU_self _ _ _ | (refine (hU_ne (by omega)).trans ?_; first | assumption | exact hU_self _ _ _ | (refine (hU_ne (by omega)).trans ?_; first | assumption | exact hU_self _ _ _ | (refine (hU_ne (by omega)).trans ?_; first | assumption | exact hU_self _ _ _)))) (by exact rfl) ?_
            refine qV_iload_n (pc := 70) 2 dX6_chunk_70 rfl rfl ?_
            refine qV_iload_n (pc := 71) 3 dX6_chunk_71 rfl rfl ?_
            refine qV_iload (pc := 72) 4 dX6_chunk_72 rfl ?_
            refine qV_rdV (pc := 74) (c_between (w := w.toNat) (i := (csum X.1.2.2.2.1 x.toNat).toNat) (j := (csum X.1.2.2.2.1 (x.toNat + 1)).toNat) hS (by omega) (by omega) (by omega) (by omega) (by omega) (by omega)) nX5_between kX5 lk_X6_124 dX6_chunk_74 (by first | assumption | exact hU_self _ _ _ | (refine (hU_ne (by omega)).trans ?_; first | assumption | exact hU_self _ _ _ | (refine (hU_ne (by omega)).trans ?_; first | assumption | exact hU_self _ _ _ | (refine (hU_ne (by omega)).trans ?_; first | assumption | exact hU_self _ _ _)))) ⟨le_b rfl, le_b rfl⟩ ⟨le_b rfl, le_b rfl⟩ rfl (le_b rfl) ?_
            refine qV_iret (pc := 77) dX6_chunk_77 rfl (le_b rfl) (le_b rfl) ?_
            first
            | exact ⟨by simp only [oChunk]; rw [if_pos (by omega)], rfl, rfl⟩
            | exact ⟨by simp only [oChunk]; rw [if_neg (by omega), if_pos (by omega)], rfl, rfl⟩
            | exact ⟨by simp only [oChunk]; rw [if_neg (by omega), if_neg (by omega)], rfl, rfl⟩
          · refine qV_aload_n (pc := 58) 0 dX6_chunk_58 rfl rfl ?_
            refine qV_iload_n (pc := 59) 3 dX6_chunk_59 rfl rfl ?_
            refine qV_iload (pc := 60) 4 dX6_chunk_60 rfl ?_
            refine qV_rdV (pc := 62) (v_widestPart (b := (csum X.1.2.2.2.1 x.toNat).toNat) (e := (X.1.2.2.2.1 x.toNat).toNat) hI wx (by omega) (by omega) (by omega)) nX6_widestPart kX6 lk_X6_147 dX6_chunk_62 (by first | assumption | exact hU_self _ _ _ | (refine (hU_ne (by omega)).trans ?_; first | assumption | exact hU_self _ _ _ | (refine (hU_ne (by omega)).trans ?_; first | assumption | exact hU_self _ _ _ | (refine (hU_ne (by omega)).trans ?_; first | assumption | exact hU_self _ _ _)))) ⟨le_b rfl, le_b rfl⟩ ⟨le_b rfl, le_b rfl⟩ rfl (le_b rfl) ?_
            refine qV_iret (pc := 65) dX6_chunk_65 rfl (le_b rfl) (le_b rfl) ?_
            first
            | exact ⟨by simp only [oChunk]; rw [if_pos (by omega)], rfl, rfl⟩
            | exact ⟨by simp only [oChunk]; rw [if_neg (by omega), if_pos (by omega)], rfl, rfl⟩
            | exact ⟨by simp only [oChunk]; rw [if_neg (by omega), if_neg (by omega)], rfl, rfl⟩
        · refine qV_iconst (pc := 27) dX6_chunk_27 ?_
          refine qV_iret (pc := 28) dX6_chunk_28 rfl (le_b rfl) (le_b rfl) ?_
          first
          | exact ⟨by simp only [oChunk]; rw [if_pos (by omega)], rfl, rfl⟩
          | exact ⟨by simp only [oChunk]; rw [if_neg (by omega), if_pos (by omega)], rfl, rfl⟩
          | exact ⟨by simp only [oChunk]; rw [if_neg (by omega), if_neg (by omega)], rfl, rfl⟩
set_option maxRecDepth 100000 in
set_option maxHeartbeats 4000000 in
theorem v_mark {x : Int} (hx : iR x) (hI : CInv h sz v X) (wx : wfX X) : qRd l mX6_mark [.ref v, vI x] h sz (vI (oMark X x)) := by
  obtain ⟨ho, hP, ⟨s0, hS⟩, ht, hg, hy, hi, hv⟩ := id hI
  obtain ⟨hp1, hpb, hpc, hpm⟩ := id hP
  obtain ⟨⟨⟨w1, w2, w3, w4, w5, w6, w7⟩, w8⟩, -⟩ := id wx
  have hs1 := hS.1
  obtain ⟨_, _, -, -, hg1, -⟩ := id hg
  obtain ⟨_, _, -, hy1, -⟩ := id hy
  obtain ⟨x1, x2⟩ := hx
  refine qC.of 0 (by decide) (le_b rfl) ?_
  refine qV_iload_n (pc := 0) 1 dX6_mark_0 rfl rfl ?_
  refine qV_rdS (pc := 1) (v_isName ⟨x1, x2⟩) nX6_isName lk_X6_150 dX6_mark_1 ⟨le_b rfl, le_b rfl⟩ ⟨le_b rfl, le_b rfl⟩ rfl (le_b rfl) ?_
  refine qV_ifneB (pc := 4) 9 dX6_mark_4 (by decide) (fun c4 => ?_) (fun c4 => ?_)
  · refine qV_aload_n (pc := 9) 0 dX6_mark_9 rfl rfl ?_
    refine qV_get (pc := 10) kX6 0 (le_b rfl) lk_X6_14 rfl dX6_mark_10 (by first | assumption | exact hU_self _ _ _ | (refine (hU_ne (by omega)).trans ?_; first | assumption | exact hU_self _ _ _ | (refine (hU_ne (by omega)).trans ?_; first | assumption | exact hU_self _ _ _ | (refine (hU_ne (by omega)).trans ?_; first | assumption | exact hU_self _ _ _)))) (by exact rfl) ?_
    refine qV_iload_n (pc := 13) 1 dX6_mark_13 rfl rfl ?_
    refine qV_rdV (pc := 14) (c_markPlace (i := (x - 97).toNat) hP (by omega) (by omega)) nX2_markPlace kX2 lk_X6_153 dX6_mark_14 (by first | assumption | exact hU_self _ _ _ | (refine (hU_ne (by omega)).trans ?_; first | assumption | exact hU_self _ _ _ | (refine (hU_ne (by omega)).trans ?_; first | assumption | exact hU_self _ _ _ | (refine (hU_ne (by omega)).trans ?_; first | assumption | exact hU_self _ _ _)))) ⟨le_b rfl, le_b rfl⟩ ⟨le_b rfl, le_b rfl⟩ rfl (le_b rfl) ?_
    refine qV_iret (pc := 17) dX6_mark_17 rfl (le_b rfl) (le_b rfl) ?_
    first | exact ⟨by simp only [oMark]; rw [if_pos c4], rfl, rfl⟩ | exact ⟨by simp only [oMark]; rw [if_neg (fun z => z c4)], rfl, rfl⟩
  · refine qV_iconst (pc := 7) dX6_mark_7 ?_
    refine qV_iret (pc := 8) dX6_mark_8 rfl (le_b rfl) (le_b rfl) ?_
    first | exact ⟨by simp only [oMark]; rw [if_pos c4], rfl, rfl⟩ | exact ⟨by simp only [oMark]; rw [if_neg (fun z => z c4)], rfl, rfl⟩
set_option maxRecDepth 100000 in
set_option maxHeartbeats 4000000 in
theorem v_next {x : Int} (hx : iR x) (hI : CInv h sz v X) (wx : wfX X) : qRd l mX6_next [.ref v, vI x] h sz (vI (oNext X x)) := by
  obtain ⟨ho, hP, ⟨s0, hS⟩, ht, hg, hy, hi, hv⟩ := id hI
  obtain ⟨hp1, hpb, hpc, hpm⟩ := id hP
  obtain ⟨⟨⟨w1, w2, w3, w4, w5, w6, w7⟩, w8⟩, -⟩ := id wx
  have hs1 := hS.1
  obtain ⟨_, _, -, -, hg1, -⟩ := id hg
  obtain ⟨_, _, -, hy1, -⟩ := id hy
  obtain ⟨x1, x2⟩ := hx
  refine qC.of 0 (by decide) (le_b rfl) ?_
  refine qV_aload_n (pc := 0) 0 dX6_next_0 rfl rfl ?_
  refine qV_iload_n (pc := 1) 1 dX6_next_1 rfl rfl ?_
  refine qV_rdV (pc := 2) (v_isPlace ⟨x1, x2⟩ hI wx) nX6_isPlace kX6 lk_X6_115 dX6_next_2 (by first | assumption | exact hU_self _ _ _ | (refine (hU_ne (by omega)).trans ?_; first | assumption | exact hU_self _ _ _ | (refine (hU_ne (by omega)).trans ?_; first | assumption | exact hU_self _ _ _ | (refine (hU_ne (by omega)).trans ?_; first | assumption | exact hU_self _ _ _)))) ⟨le_b rfl, le_b rfl⟩ ⟨le_b rfl, le_b rfl⟩ rfl (le_b rfl) ?_
  refine qV_ifneB (pc := 5) 10 dX6_next_5 (by decide) (fun c5 => ?_) (fun c5 => ?_)
  · refine qV_aload_n (pc := 10) 0 dX6_next_10 rfl rfl ?_
    refine qV_get (pc := 11) kX6 0 (le_b rfl) lk_X6_14 rfl dX6_next_11 (by first | assumption | exact hU_self _ _ _ | (refine (hU_ne (by omega)).trans ?_; first | assumption | exact hU_self _ _ _ | (refine (hU_ne (by omega)).trans ?_; first | assumption | exact hU_self _ _ _ | (refine (hU_ne (by omega)).trans ?_; first | assumption | exact hU_self _ _ _)))) (by exact rfl) ?_
    refine qV_iload_n (pc := 14) 1 dX6_next_14 rfl rfl ?_
    refine qV_rdV (pc := 15) (c_markFrom hP (fun j hj => by have := w5 j hj; omega) (by omega)) nX2_markFrom kX2 lk_X6_163 dX6_next_15 (by first | assumption | exact hU_self _ _ _ | (refine (hU_ne (by omega)).trans ?_; first | assumption | exact hU_self _ _ _ | (refine (hU_ne (by omega)).trans ?_; first | assumption | exact hU_self _ _ _ | (refine (hU_ne (by omega)).trans ?_; first | assumption | exact hU_self _ _ _)))) ⟨le_b rfl, le_b rfl⟩ ⟨le_b rfl, le_b rfl⟩ rfl (le_b rfl) ?_
    refine qV_iret (pc := 18) dX6_next_18 rfl (le_b rfl) (le_b rfl) ?_
    first | exact ⟨by simp only [oNext]; rw [if_pos c5], rfl, rfl⟩ | exact ⟨by simp only [oNext]; rw [if_neg (fun z => z c5)], rfl, rfl⟩
  · refine qV_iconst (pc := 8) dX6_next_8 ?_
    refine qV_iret (pc := 9) dX6_next_9 rfl (le_b rfl) (le_b rfl) ?_
    first | exact ⟨by simp only [oNext]; rw [if_pos c5], rfl, rfl⟩ | exact ⟨by simp only [oNext]; rw [if_neg (fun z => z c5)], rfl, rfl⟩
set_option maxRecDepth 100000 in
set_option maxHeartbeats 4000000 in
theorem v_count {x : Int} (hx : iR x) (hI : CInv h sz v X) (wx : wfX X) : qRt l mX6_count 0 0 [.ref v, vI x] h sz (fun w h' sz' => w = vI (oCount X x) ∧ CInv h' sz' v X ∧ Kp h h' v ∧ sz' = sz) := by
  obtain ⟨ho, hP, ⟨s0, hS⟩, ht, hg, hy, hi, hv⟩ := id hI
  obtain ⟨hp1, hpb, hpc, hpm⟩ := id hP
  obtain ⟨⟨⟨w1, w2, w3, w4, w5, w6, w7⟩, w8⟩, -⟩ := id wx
  have hs1 := hS.1
  obtain ⟨_, _, -, -, hg1, -⟩ := id hg
  obtain ⟨_, _, -, hy1, -⟩ := id hy
  obtain ⟨x1, x2⟩ := hx
  refine qC.of 0 (by decide) (le_b rfl) ?_
  refine qV_iload_n (pc := 0) 1 dX6_count_0 rfl rfl ?_
  by_cases e0 : 0 ≤ x ∧ x ≤ 3
  · refine qV_tswIn (pc := 1) 64 dX6_count_1 ⟨x1, x2⟩ (by omega) (by omega) (off := 63) (by
      rcases (show x = 0 ∨ x = 1 ∨ x = 2 ∨ x = 3 by omega) with rfl | rfl | rfl | rfl <;> rfl) (by decide) ?_
    refine qV_aload_n (pc := 64) 0 dX6_count_64 rfl rfl ?_
    refine qV_get (pc := 65) kX6 1 (le_b rfl) lk_X6_21 rfl dX6_count_65 (by first | assumption | exact hU_self _ _ _ | (refine (hU_ne (by omega)).trans ?_; first | assumption | exact hU_self _ _ _ | (refine (hU_ne (by omega)).trans ?_; first | assumption | exact hU_self _ _ _ | (refine (hU_ne (by omega)).trans ?_; first | assumption | exact hU_self _ _ _)))) (by exact rfl) ?_
    refine qV_iload_n (pc := 68) 1 dX6_count_68 rfl rfl ?_
    refine qV_rdV (pc := 69) (c_total (w := x.toNat) hS (by omega) (by omega)) nX5_total kX5 lk_X6_105 dX6_count_69 (by first | assumption | exact hU_self _ _ _ | (refine (hU_ne (by omega)).trans ?_; first | assumption | exact hU_self _ _ _ | (refine (hU_ne (by omega)).trans ?_; first | assumption | exact hU_self _ _ _ | (refine (hU_ne (by omega)).trans ?_; first | assumption | exact hU_self _ _ _)))) ⟨le_b rfl, le_b rfl⟩ ⟨le_b rfl, le_b rfl⟩ rfl (le_b rfl) ?_
    refine qV_iret (pc := 72) dX6_count_72 rfl (le_b rfl) (le_b rfl) ?_
    exact ⟨_, rfl, by simp only [oCount]; rw [if_pos e0], hI, Kp.rf, rfl⟩
  by_cases e4 : x = 4
  · subst e4
    refine qV_tswIn (pc := 1) 73 dX6_count_1 ⟨by decide, by decide⟩ (by decide) (by decide) rfl (by decide) ?_
    refine qV_aload_n (pc := 73) 0 dX6_count_73 rfl rfl ?_
    refine qV_get (pc := 74) kX6 1 (le_b rfl) lk_X6_21 rfl dX6_count_74 (by first | assumption | exact hU_self _ _ _ | (refine (hU_ne (by omega)).trans ?_; first | assumption | exact hU_self _ _ _ | (refine (hU_ne (by omega)).trans ?_; first | assumption | exact hU_self _ _ _ | (refine (hU_ne (by omega)).trans ?_; first | assumption | exact hU_self _ _ _)))) (by exact rfl) ?_
    refine qV_rdV (pc := 77) (c_lines hS) nX5_lines kX5 lk_X6_179 dX6_count_77 (by first | assumption | exact hU_self _ _ _ | (refine (hU_ne (by omega)).trans ?_; first | assumption | exact hU_self _ _ _ | (refine (hU_ne (by omega)).trans ?_; first | assumption | exact hU_self _ _ _ | (refine (hU_ne (by omega)).trans ?_; first | assumption | exact hU_self _ _ _)))) ⟨le_b rfl, le_b rfl⟩ ⟨le_b rfl, le_b rfl⟩ rfl (le_b rfl) ?_
    refine qV_iret (pc := 80) dX6_count_80 rfl (le_b rfl) (le_b rfl) ?_
    exact ⟨_, rfl, by simp only [oCount]; rfl, hI, Kp.rf, rfl⟩
  by_cases e5 : x = 5
  · subst e5
    refine qV_tswIn (pc := 1) 81 dX6_count_1 ⟨by decide, by decide⟩ (by decide) (by decide) rfl (by decide) ?_
    refine qV_aload_n (pc := 81) 0 dX6_count_81 rfl rfl ?_
    refine qV_get (pc := 82) kX6 1 (le_b rfl) lk_X6_21 rfl dX6_count_82 (by first | assumption | exact hU_self _ _ _ | (refine (hU_ne (by omega)).trans ?_; first | assumption | exact hU_self _ _ _ | (refine (hU_ne (by omega)).trans ?_; first | assumption | exact hU_self _ _ _ | (refine (hU_ne (by omega)).trans ?_; first | assumption | exact hU_self _ _ _)))) (by exact rfl) ?_
    refine qV_aload_n (pc := 85) 0 dX6_count_85 rfl rfl ?_
    refine qV_get (pc := 86) kX6 1 (le_b rfl) lk_X6_21 rfl dX6_count_86 (by first | assumption | exact hU_self _ _ _ | (refine (hU_ne (by omega)).trans ?_; first | assumption | exact hU_self _ _ _ | (refine (hU_ne (by omega)).trans ?_; first | assumption | exact hU_self _ _ _ | (refine (hU_ne (by omega)).trans ?_; first | assumption | exact hU_self _ _ _)))) (by exact rfl) ?_
    refine qV_iconst (pc := 89) dX6_count_89 ?_
    refine qV_rtV (pc := 90) (c_lineByWidth (k := 0) hS rfl (by omega)) nX5_lineByWidth kX5 lk_X6_138 dX6_count_90 (by first | assumption | exact hU_self _ _ _ | (refine (hU_ne (by omega)).trans ?_; first | assumption | exact hU_self _ _ _ | (refine (hU_ne (by omega)).trans ?_; first | assumption | exact hU_self _ _ _ | (refine (hU_ne (by omega)).trans ?_; first | assumption | exact hU_self _ _ _)))) ⟨le_b rfl, le_b rfl⟩ ⟨le_b rfl, le_b rfl⟩ rfl (le_b rfl) ?_
    rintro w h2 sz ⟨⟨xs, x3, rfl⟩, s2, f2, rfl⟩
    have hI2 : CInv h2 sz v X := ⟨(f2 _ (by omega)).trans ho, hP.fr f2 (by omega), ⟨1, s2⟩, ht.fr f2 (by omega), hg.fr f2 (by omega), hy.fr f2 (by omega), hi.fr f2 (by omega), hv⟩
    have hs2 := s2.1
    have hlt := x3.lt (j := 0) (by omega)
    refine qV_rdV (pc := 93) (c_lineWidth (k := xs.getD 0 0) s2 rfl (by omega)) nX5_lineWidth kX5 lk_X6_182 dX6_count_93 (by first | assumption | exact hU_self _ _ _ | (refine (hU_ne (by omega)).trans ?_; first | assumption | exact hU_self _ _ _ | (refine (hU_ne (by omega)).trans ?_; first | assumption | exact hU_self _ _ _ | (refine (hU_ne (by omega)).trans ?_; first | assumption | exact hU_self _ _ _)))) ⟨le_b rfl, le_b rfl⟩ ⟨le_b rfl, le_b rfl⟩ rfl (le_b rfl) ?_
    refine qV_iret (pc := 96) dX6_count_96 rfl (le_b rfl) (le_b rfl) ?_
    have hw0 := lnW_in (T := X.1.2.1) (n := X.1.1) (k := xs.getD 0 0) (by omega)
    exact ⟨_, rfl, by rw [wmax_srt x3 (by omega) hw0.1]; rfl, hI2, Kp.of f2 (by omega), rfl⟩
  by_cases e6 : x = 6
  · subst e6
    refine qV_tswIn (pc := 1) 97 dX6_count_1 ⟨by decide, by decide⟩ (by decide) (by decide) rfl (by decide) ?_
    refine qV_aload_n (pc := 97) 0 dX6_count_97 rfl rfl ?_
    refine qV_get (pc := 98) kX6 0 (le_b rfl) lk_X6_14 rfl dX6_count_98 (by first | assumption | exact hU_self _ _ _ | (refine (hU_ne (by omega)).trans ?_; first | assumption | exact hU_self _ _ _ | (refine (hU_ne (by omega)).trans ?_; first | assumption | exact hU_self _ _ _ | (refine (hU_ne (by omega)).trans ?_; first | assumption | exact hU_self _ _ _)))) (by exact rfl) ?_
    refine qV_get (pc := 101) kX2 1 (le_b rfl) lk_X6_141 rfl dX6_count_101 (by first | assumption | exact hU_self _ _ _ | (refine (hU_ne (by omega)).trans ?_; first | assumption | exact hU_self _ _ _ | (refine (hU_ne (by omega)).trans ?_; first | assumption | exact hU_self _ _ _ | (refine (hU_ne (by omega)).trans ?_; first | assumption | exact hU_self _ _ _)))) (by exact rfl) ?_
    refine qV_rdV (pc := 104) (c_size hpc) nX3_size kX3 lk_X6_50 dX6_count_104 hpc.obj ⟨le_b rfl, le_b rfl⟩ ⟨le_b rfl, le_b rfl⟩ rfl (le_b rfl) ?_
    refine qV_iret (pc := 107) dX6_count_107 rfl (le_b rfl) (le_b rfl) ?_
    exact ⟨_, rfl, by simp only [oCount]; rfl, hI, Kp.rf, rfl⟩
  by_cases e7 : x = 7
  · subst e7
    refine qV_tswIn (pc := 1) 108 dX6_count_1 ⟨by decide, by decide⟩ (by decide) (by decide) rfl (by decide) ?_
    refine qV_aload_n (pc := 108) 0 dX6_count_108 rfl rfl ?_
    refine qV_get (pc := 109) kX6 0 (le_b rfl) lk_X6_14 rfl dX6_count_109 (by first | assumption | exact hU_self _ _ _ | (refine (hU_ne (by omega)).trans ?_; first | assumption | exact hU_self _ _ _ | (refine (hU_ne (by omega)).trans ?_; first | assumption | exact hU_self _ _ _ | (refine (hU_ne (by omega)).trans ?_; first | assumption | exact hU_self _ _ _)))) (by exact rfl) ?_
    refine qV_rdV (pc := 112) (c_marksSet hP (fun j hj => by have := w5 j hj; omega)) nX2_marksSet kX2 lk_X6_156 dX6_count_112 (by first | assumption | exact hU_self _ _ _ | (refine (hU_ne (by omega)).trans ?_; first | assumption | exact hU_self _ _ _ | (refine (hU_ne (by omega)).trans ?_; first | assumption | exact hU_self _ _ _ | (refine (hU_ne (by omega)).trans ?_; first | assumption | exact hU_self _ _ _)))) ⟨le_b rfl, le_b rfl⟩ ⟨le_b rfl, le_b rfl⟩ rfl (le_b rfl) ?_
    refine qV_iret (pc := 115) dX6_count_115 rfl (le_b rfl) (le_b rfl) ?_
    exact ⟨_, rfl, by simp only [oCount]; rfl, hI, Kp.rf, rfl⟩
  by_cases e8 : x = 8
  · subst e8
    refine qV_tswIn (pc := 1) 116 dX6_count_1 ⟨by decide, by decide⟩ (by decide) (by decide) rfl (by decide) ?_
    refine qV_aload_n (pc := 116) 0 dX6_count_116 rfl rfl ?_
    refine qV_get (pc := 117) kX6 0 (le_b rfl) lk_X6_14 rfl dX6_count_117 (by first | assumption | exact hU_self _ _ _ | (refine (hU_ne (by omega)).trans ?_; first | assumption | exact hU_self _ _ _ | (refine (hU_ne (by omega)).trans ?_; first | assumption | exact hU_self _ _ _ | (refine (hU_ne (by omega)).trans ?_; first | assumption | exact hU_self _ _ _)))) (by exact rfl) ?_
    refine qV_get (pc := 120) kX2 3 (le_b rfl) lk_X6_166 rfl dX6_count_120 (by first | assumption | exact hU_self _ _ _ | (refine (hU_ne (by omega)).trans ?_; first | assumption | exact hU_self _ _ _ | (refine (hU_ne (by omega)).trans ?_; first | assumption | exact hU_self _ _ _ | (refine (hU_ne (by omega)).trans ?_; first | assumption | exact hU_self _ _ _)))) (by exact rfl) ?_
    refine qV_iret (pc := 123) dX6_count_123 rfl (le_b rfl) (le_b rfl) ?_
    exact ⟨_, rfl, by simp only [oCount]; rfl, hI, Kp.rf, rfl⟩
  by_cases e9 : x = 9
  · subst e9
    refine qV_tswIn (pc := 1) 124 dX6_count_1 ⟨by decide, by decide⟩ (by decide) (by decide) rfl (by decide) ?_
    refine qV_aload_n (pc := 124) 0 dX6_count_124 rfl rfl ?_
    refine qV_get (pc := 125) kX6 2 (le_b rfl) lk_X6_28 rfl dX6_count_125 (by first | assumption | exact hU_self _ _ _ | (refine (hU_ne (by omega)).trans ?_; first | assumption | exact hU_self _ _ _ | (refine (hU_ne (by omega)).trans ?_; first | assumption | exact hU_self _ _ _ | (refine (hU_ne (by omega)).trans ?_; first | assumption | exact hU_self _ _ _)))) (by exact rfl) ?_
    refine qV_rdV (pc := 128) (c_size ht) nX3_size kX3 lk_X6_50 dX6_count_128 ht.obj ⟨le_b rfl, le_b rfl⟩ ⟨le_b rfl, le_b rfl⟩ rfl (le_b rfl) ?_
    refine qV_iret (pc := 131) dX6_count_131 rfl (le_b rfl) (le_b rfl) ?_
    exact ⟨_, rfl, by simp only [oCount]; rfl, hI, Kp.rf, rfl⟩
  by_cases e10 : x = 10
  · subst e10
    refine qV_tswIn (pc := 1) 132 dX6_count_1 ⟨by decide, by decide⟩ (by decide) (by decide) rfl (by decide) ?_
    refine qV_aload_n (pc := 132) 0 dX6_count_132 rfl rfl ?_
    refine qV_get (pc := 133) kX6 3 (le_b rfl) lk_X6_35 rfl dX6_count_133 (by first | assumption | exact hU_self _ _ _ | (refine (hU_ne (by omega)).trans ?_; first | assumption | exact hU_self _ _ _ | (refine (hU_ne (by omega)).trans ?_; first | assumption | exact hU_self _ _ _ | (refine (hU_ne (by omega)).trans ?_; first | assumption | exact hU_self _ _ _)))) (by exact rfl) ?_
    refine qV_rdV (pc := 136) (c_Stg_size hg) nX4_size kX4 lk_X6_64 dX6_count_136 (by first | assumption | exact hU_self _ _ _ | (refine (hU_ne (by omega)).trans ?_; first | assumption | exact hU_self _ _ _ | (refine (hU_ne (by omega)).trans ?_; first | assumption | exact hU_self _ _ _ | (refine (hU_ne (by omega)).trans ?_; first | assumption | exact hU_self _ _ _)))) ⟨le_b rfl, le_b rfl⟩ ⟨le_b rfl, le_b rfl⟩ rfl (le_b rfl) ?_
    refine qV_iret (pc := 139) dX6_count_139 rfl (le_b rfl) (le_b rfl) ?_
    exact ⟨_, rfl, by simp only [oCount]; rfl, hI, Kp.rf, rfl⟩
  by_cases e11 : x = 11
  · subst e11
    refine qV_tswIn (pc := 1) 140 dX6_count_1 ⟨by decide, by decide⟩ (by decide) (by decide) rfl (by decide) ?_
    refine qV_aload_n (pc := 140) 0 dX6_count_140 rfl rfl ?_
    refine qV_get (pc := 141) kX6 4 (le_b rfl) lk_X6_42 rfl dX6_count_141 (by first | assumption | exact hU_self _ _ _ | (refine (hU_ne (by omega)).trans ?_; first | assumption | exact hU_self _ _ _ | (refine (hU_ne (by omega)).trans ?_; first | assumption | exact hU_self _ _ _ | (refine (hU_ne (by omega)).trans ?_; first | assumption | exact hU_self _ _ _)))) (by exact rfl) ?_
    refine qV_rdV (pc := 144) (c_Hst_size hy) nX1_size kX1 lk_X6_93 dX6_count_144 (by first | assumption | exact hU_self _ _ _ | (refine (hU_ne (by omega)).trans ?_; first | assumption | exact hU_self _ _ _ | (refine (hU_ne (by omega)).trans ?_; first | assumption | exact hU_self _ _ _ | (refine (hU_ne (by omega)).trans ?_; first | assumption | exact hU_self _ _ _)))) ⟨le_b rfl, le_b rfl⟩ ⟨le_b rfl, le_b rfl⟩ rfl (le_b rfl) ?_
    refine qV_iret (pc := 147) dX6_count_147 rfl (le_b rfl) (le_b rfl) ?_
    exact ⟨_, rfl, by simp only [oCount]; rfl, hI, Kp.rf, rfl⟩
  refine qV_tswOut (pc := 1) 148 dX6_count_1 ⟨x1, x2⟩ (by omega) (by decide) ?_
  refine qV_iconst (pc := 148) dX6_count_148 ?_
  refine qV_iret (pc := 149) dX6_count_149 rfl (le_b rfl) (le_b rfl) ?_
  exact ⟨_, rfl, by simp only [oCount]; rw [if_neg e0, if_neg e4, if_neg e5, if_neg e6, if_neg e7, if_neg e8, if_neg e9, if_neg e10, if_neg e11], hI, Kp.rf, rfl⟩
set_option maxRecDepth 100000 in
set_option maxHeartbeats 4000000 in
theorem dig_loop (hI : CInv h sz v X) (wx : wfX X) : ∀ (m i : Nat) (q : Int) (x4 : Option Value), 26 - i = m → i ≤ 26 → q = 97 + (i : Int) → qVM l mX6_digest 0 0 h sz (fun v h' sz' => v = some (vL (oDigest X)) ∧ h' = h ∧ sz' = sz) 0 0 h sz 27 [some (.ref v), some (vL (mxm (mix (mix 17 X.1.2.1 X.1.1) X.1.2.2.2.1 X.1.2.2.1) X.1.2.2.2.2.1 i)), none, some (vI q), x4] [] := by
  obtain ⟨ho, hP, ⟨s0, hS⟩, ht, hg, hy, hi, hv⟩ := id hI
  obtain ⟨hp1, hpb, hpc, hpm⟩ := id hP
  obtain ⟨⟨⟨w1, w2, w3, w4, w5, w6, w7⟩, w8⟩, -⟩ := id wx
  have hs1 := hS.1
  obtain ⟨_, _, -, -, hg1, -⟩ := id hg
  obtain ⟨_, _, -, hy1, -⟩ := id hy
  intro m
  induction m with
  | zero =>
    intro i q x4 hm hi hq
    obtain rfl : i = 26 := by omega
    refine qV_iload_n (pc := 27) 3 dX6_digest_27 rfl rfl ?_
    refine qV_bipush (pc := 28) dX6_digest_28 rfl ?_
    refine qV_icmp_ge (pc := 30) 75 dX6_digest_30 (by decide) ⟨by omega, by omega⟩ ⟨by omega, by omega⟩ (fun c30 => ?_) (fun c30 => ?_)
    · refine qV_lload_n (pc := 75) 1 dX6_digest_75 rfl rfl ?_
      refine qV_lret (pc := 76) dX6_digest_76 rfl (le_b rfl) (le_b rfl) ?_
      exact ⟨rfl, rfl, rfl⟩
    · exfalso; omega
  | succ m ih =>
    intro i q x4 hm hi hq
    have b := w5 i (by omega)
    refine qV_iload_n (pc := 27) 3 dX6_digest_27 rfl rfl ?_
    refine qV_bipush (pc := 28) dX6_digest_28 rfl ?_
    refine qV_icmp_ge (pc := 30) 75 dX6_digest_30 (by decide) ⟨by omega, by omega⟩ ⟨by omega, by omega⟩ (fun c30 => ?_) (fun c30 => ?_)
    · exfalso; omega
    · refine qV_aload_n (pc := 33) 0 dX6_digest_33 rfl rfl ?_
      refine qV_get (pc := 34) kX6 0 (le_b rfl) lk_X6_14 rfl dX6_digest_34 (by first | assumption | exact hU_self _ _ _ | (refine (hU_ne (by omega)).trans ?_; first | assumption | exact hU_self _ _ _ | (refine (hU_ne (by omega)).trans ?_; first | assumption | exact hU_self _ _ _ | (refine (hU_ne (by omega)).trans ?_; first | assumption | exact hU_self _ _ _)))) (by exact rfl) ?_
      refine qV_iload_n (pc := 37) 3 dX6_digest_37 rfl rfl ?_
      refine qV_rdV (pc := 38) (c_markPlace (i := i) hP hq (by omega)) nX2_markPlace kX2 lk_X6_153 dX6_digest_38 (by first | assumption | exact hU_self _ _ _ | (refine (hU_ne (by omega)).trans ?_; first | assumption | exact hU_self _ _ _ | (refine (hU_ne (by omega)).trans ?_; first | assumption | exact hU_self _ _ _ | (refine (hU_ne (by omega)).trans ?_; first | assumption | exact hU_self _ _ _)))) ⟨le_b rfl, le_b rfl⟩ ⟨le_b rfl, le_b rfl⟩ rfl (le_b rfl) ?_
      refine qV_istore (pc := 41) 4 dX6_digest_41 (le_b rfl) (le_b rfl) rfl ?_
      refine qV_iload (pc := 43) 4 dX6_digest_43 rfl ?_
      refine qV_bipush (pc := 45) dX6_digest_45 rfl ?_
      refine qV_icmp_eq (pc := 47) 69 dX6_digest_47 (by decide) ⟨by omega, by omega⟩ ⟨by omega, by omega⟩ (fun c47 => ?_) (fun c47 => ?_)
      · refine qV_iinc (pc := 69) 3 dX6_digest_69 rfl (le_b rfl) (le_b rfl) rfl ?_
        refine qV_goto (pc := 72) 27 dX6_digest_72 (by decide) ?_
        first
        | (have e1 : mxm (mix (mix 17 X.1.2.1 X.1.1) X.1.2.2.2.1 X.1.2.2.1) X.1.2.2.2.2.1 (i + 1) = mxm (mix (mix 17 X.1.2.1 X.1.1) X.1.2.2.2.1 X.1.2.2.1) X.1.2.2.2.2.1 i := by simp only [mxm]; rw [if_pos c47]
           have := ih (i + 1) (q + 1) (some (vI (X.1.2.2.2.2.1 i))) (by omega) (by omega) (by omega)
           rw [e1] at this
           exact this)
        | (have e1 : mxm (mix (mix 17 X.1.2.1 X.1.1) X.1.2.2.2.1 X.1.2.2.1) X.1.2.2.2.2.1 (i + 1) = 31 * (31 * mxm (mix (mix 17 X.1.2.1 X.1.1) X.1.2.2.2.1 X.1.2.2.1) X.1.2.2.2.2.1 i + q) + X.1.2.2.2.2.1 i := by simp only [mxm]; rw [if_neg c47, hq]
           have := ih (i + 1) (q + 1) (some (vI (X.1.2.2.2.2.1 i))) (by omega) (by omega) (by omega)
           rw [e1] at this
           exact this)
      · refine qV_ldc2 (pc := 50) 31 (by decide) dX6_digest_50 lk_X6_191 ?_
        refine qV_lload_n (pc := 53) 1 dX6_digest_53 rfl rfl ?_
        refine qV_lmul (pc := 54) dX6_digest_54 ?_
        refine qV_iload_n (pc := 55) 3 dX6_digest_55 rfl rfl ?_
        refine qV_i2l (pc := 56) dX6_digest_56 ⟨by omega, by omega⟩ ?_
        refine qV_ladd (pc := 57) dX6_digest_57 ?_
        refine qV_lstore_n (pc := 58) 1 dX6_digest_58 rfl (le_b rfl) (le_b rfl) rfl ?_
        refine qV_ldc2 (pc := 59) 31 (by decide) dX6_digest_59 lk_X6_191 ?_
        refine qV_lload_n (pc := 62) 1 dX6_digest_62 rfl rfl ?_
        refine qV_lmul (pc := 63) dX6_digest_63 ?_
        refine qV_iload (pc := 64) 4 dX6_digest_64 rfl ?_
        refine qV_i2l (pc := 66) dX6_digest_66 ⟨by omega, by omega⟩ ?_
        refine qV_ladd (pc := 67) dX6_digest_67 ?_
        refine qV_lstore_n (pc := 68) 1 dX6_digest_68 rfl (le_b rfl) (le_b rfl) rfl ?_
        refine qV_iinc (pc := 69) 3 dX6_digest_69 rfl (le_b rfl) (le_b rfl) rfl ?_
        refine qV_goto (pc := 72) 27 dX6_digest_72 (by decide) ?_
        first
        | (have e1 : mxm (mix (mix 17 X.1.2.1 X.1.1) X.1.2.2.2.1 X.1.2.2.1) X.1.2.2.2.2.1 (i + 1) = mxm (mix (mix 17 X.1.2.1 X.1.1) X.1.2.2.2.1 X.1.2.2.1) X.1.2.2.2.2.1 i := by simp only [mxm]; rw [if_pos c47]
           have := ih (i + 1) (q + 1) (some (vI (X.1.2.2.2.2.1 i))) (by omega) (by omega) (by omega)
           rw [e1] at this
           exact this)
        | (have e1 : mxm (mix (mix 17 X.1.2.1 X.1.1) X.1.2.2.2.1 X.1.2.2.1) X.1.2.2.2.2.1 (i + 1) = 31 * (31 * mxm (mix (mix 17 X.1.2.1 X.1.1) X.1.2.2.2.1 X.1.2.2.1) X.1.2.2.2.2.1 i + q) + X.1.2.2.2.2.1 i := by simp only [mxm]; rw [if_neg c47, hq]
           have := ih (i + 1) (q + 1) (some (vI (X.1.2.2.2.2.1 i))) (by omega) (by omega) (by omega)
           rw [e1] at this
           exact this)
set_option maxRecDepth 100000 in
set_option maxHeartbeats 4000000 in
theorem v_digest (hI : CInv h sz v X) (wx : wfX X) : qRd l mX6_digest [.ref v] h sz (vL (oDigest X)) := by
  obtain ⟨ho, hP, ⟨s0, hS⟩, ht, hg, hy, hi, hv⟩ := id hI
  obtain ⟨hp1, hpb, hpc, hpm⟩ := id hP
  obtain ⟨⟨⟨w1, w2, w3, w4, w5, w6, w7⟩, w8⟩, -⟩ := id wx
  have hs1 := hS.1
  obtain ⟨_, _, -, -, hg1, -⟩ := id hg
  obtain ⟨_, _, -, hy1, -⟩ := id hy
  refine qC.of 4 (by decide) (le_b rfl) ?_
  refine qV_aload_n (pc := 0) 0 dX6_digest_0 rfl rfl ?_
  refine qV_get (pc := 1) kX6 0 (le_b rfl) lk_X6_14 rfl dX6_digest_1 (by first | assumption | exact hU_self _ _ _ | (refine (hU_ne (by omega)).trans ?_; first | assumption | exact hU_self _ _ _ | (refine (hU_ne (by omega)).trans ?_; first | assumption | exact hU_self _ _ _ | (refine (hU_ne (by omega)).trans ?_; first | assumption | exact hU_self _ _ _)))) (by exact rfl) ?_
  refine qV_get (pc := 4) kX2 1 (le_b rfl) lk_X6_141 rfl dX6_digest_4 (by first | assumption | exact hU_self _ _ _ | (refine (hU_ne (by omega)).trans ?_; first | assumption | exact hU_self _ _ _ | (refine (hU_ne (by omega)).trans ?_; first | assumption | exact hU_self _ _ _ | (refine (hU_ne (by omega)).trans ?_; first | assumption | exact hU_self _ _ _)))) (by exact rfl) ?_
  refine qV_aload_n (pc := 7) 0 dX6_digest_7 rfl rfl ?_
  refine qV_get (pc := 8) kX6 0 (le_b rfl) lk_X6_14 rfl dX6_digest_8 (by first | assumption | exact hU_self _ _ _ | (refine (hU_ne (by omega)).trans ?_; first | assumption | exact hU_self _ _ _ | (refine (hU_ne (by omega)).trans ?_; first | assumption | exact hU_self _ _ _ | (refine (hU_ne (by omega)).trans ?_; first | assumption | exact hU_self _ _ _)))) (by exact rfl) ?_
  refine qV_get (pc := 11) kX2 0 (le_b rfl) lk_X6_65 rfl dX6_digest_11 (by first | assumption | exact hU_self _ _ _ | (refine (hU_ne (by omega)).trans ?_; first | assumption | exact hU_self _ _ _ | (refine (hU_ne (by omega)).trans ?_; first | assumption | exact hU_self _ _ _ | (refine (hU_ne (by omega)).trans ?_; first | assumption | exact hU_self _ _ _)))) (by exact rfl) ?_
  refine qV_ldc2 (pc := 14) 17 (by decide) dX6_digest_14 lk_X6_185 ?_
  refine qV_rdV (pc := 17) (c_mixedInto hpb (fun j hj => ⟨by have := w2 j hj; omega, by have := w2 j hj; omega⟩)) nX3_mixedInto kX3 lk_X6_187 dX6_digest_17 hpb.obj ⟨le_b rfl, le_b rfl⟩ ⟨le_b rfl, le_b rfl⟩ rfl (le_b rfl) ?_
  refine qV_rdV (pc := 20) (c_mixedInto hpc (fun j hj => ⟨by have := w3 j hj; omega, by have := w3 j hj; omega⟩)) nX3_mixedInto kX3 lk_X6_187 dX6_digest_20 hpc.obj ⟨le_b rfl, le_b rfl⟩ ⟨le_b rfl, le_b rfl⟩ rfl (le_b rfl) ?_
  refine qV_lstore_n (pc := 23) 1 dX6_digest_23 rfl (le_b rfl) (le_b rfl) rfl ?_
  refine qV_bipush (pc := 24) dX6_digest_24 rfl ?_
  refine qV_istore_n (pc := 26) 3 dX6_digest_26 rfl (le_b rfl) (le_b rfl) rfl ?_
  exact dig_loop hI wx 26 0 _ _ (by omega) (by omega) rfl
end VIEW
