/-! ===== ChunkView: what changes ===== -/
def CG (h : qH) (sz v : Nat) (P : PG) (n : Nat) (T : Nat → Int) (tp : Nat × (Nat → Int)) (sg : (Nat → ED) × Nat) (hs : (Nat → PG) × Nat) (im : Nat → Option PG) : Prop := h v = some (vob v) ∧ Page h (v + 1) 216 P ∧ (∃ s, Sums h (v + 8) n T s) ∧ Row h (v + 21) 24 tp.1 tp.2 ∧ Stg h (v + 23) sg.1 sg.2 ∧ Hst h (v + 37) hs.1 hs.2 ∧ Imgs h sz v im ∧ v + 106 ≤ sz
section CGS
variable {h h2 : qH} {sz v n : Nat} {P : PG} {T : Nat → Int} {tp : Nat × (Nat → Int)} {sg : (Nat → ED) × Nat} {hs : (Nat → PG) × Nat} {im : Nat → Option PG}
theorem CG.text {P2 : PG} (c : CG h sz v P n T tp sg hs im) (f : Fr h h2 (v + 1) (v + 1 + 7)) (q : Page h2 (v + 1) 216 P2) : CG h2 sz v P2 n T tp sg hs im := by
  obtain ⟨a1, a2, ⟨s, a3⟩, a4, a5, a6, a7, a8⟩ := c
  exact ⟨(f _ (by omega)).trans a1, q, ⟨s, a3.fr f (by omega)⟩, a4.fr f (by omega), a5.fr f (by omega), a6.fr f (by omega), a7.fr f (by omega), a8⟩
theorem CG.sums {n2 : Nat} {T2 : Nat → Int} {s2 : Int} (c : CG h sz v P n T tp sg hs im) (f : Fr h h2 (v + 8) (v + 8 + 13)) (q : Sums h2 (v + 8) n2 T2 s2) : CG h2 sz v P n2 T2 tp sg hs im := by
  obtain ⟨a1, a2, ⟨s, a3⟩, a4, a5, a6, a7, a8⟩ := c
  exact ⟨(f _ (by omega)).trans a1, a2.fr f (by omega), ⟨s2, q⟩, a4.fr f (by omega), a5.fr f (by omega), a6.fr f (by omega), a7.fr f (by omega), a8⟩
theorem CG.tape {m2 : Nat} {W2 : Nat → Int} (c : CG h sz v P n T tp sg hs im) (f : Fr h h2 (v + 21) (v + 21 + 2)) (q : Row h2 (v + 21) 24 m2 W2) : CG h2 sz v P n T (m2, W2) sg hs im := by
  obtain ⟨a1, a2, ⟨s, a3⟩, a4, a5, a6, a7, a8⟩ := c
  exact ⟨(f _ (by omega)).trans a1, a2.fr f (by omega), ⟨s, a3.fr f (by omega)⟩, q, a5.fr f (by omega), a6.fr f (by omega), a7.fr f (by omega), a8⟩
theorem CG.stg {S2 : Nat → ED} {z2 : Nat} (c : CG h sz v P n T tp sg hs im) (f : Fr h h2 (v + 23) (v + 23 + 14)) (q : Stg h2 (v + 23) S2 z2) : CG h2 sz v P n T tp (S2, z2) hs im := by
  obtain ⟨a1, a2, ⟨s, a3⟩, a4, a5, a6, a7, a8⟩ := c
  exact ⟨(f _ (by omega)).trans a1, a2.fr f (by omega), ⟨s, a3.fr f (by omega)⟩, a4.fr f (by omega), q, a6.fr f (by omega), a7.fr f (by omega), a8⟩
theorem CG.hst {H2 : Nat → PG} {y2 : Nat} (c : CG h sz v P n T tp sg hs im) (f : Fr h h2 (v + 37) (v + 37 + 58)) (q : Hst h2 (v + 37) H2 y2) : CG h2 sz v P n T tp sg (H2, y2) im := by
  obtain ⟨a1, a2, ⟨s, a3⟩, a4, a5, a6, a7, a8⟩ := c
  exact ⟨(f _ (by omega)).trans a1, a2.fr f (by omega), ⟨s, a3.fr f (by omega)⟩, a4.fr f (by omega), a5.fr f (by omega), q, a7.fr f (by omega), a8⟩
end CGS
section VIEW2
variable {l : Launch} {h : qH} {sz v : Nat} {X : XS}
set_option maxRecDepth 100000 in
set_option maxHeartbeats 4000000 in
theorem v_type {x : Int} (hx : iR x) (hI : CInv h sz v X) (wx : wfX X) : qRt l mX6_type 0 0 [.ref v, vI x] h sz (fun w h' sz' => w = vI (oType X x).1 ∧ CInv h' sz' v (oType X x).2 ∧ Kp h h' v ∧ sz' = sz) := by
  have c0 : CG h sz v X.1 X.1.1 X.1.2.1 X.2.1 X.2.2.1 X.2.2.2.1 X.2.2.2.2 := hI
  have k0 : Kp h h v := Kp.rf
  obtain ⟨ho, hP, ⟨s0, hS⟩, ht, hg, hy, hi, hv⟩ := id c0
  obtain ⟨hp1, hpb, hpc, hpm⟩ := id hP
  have hs1 := hS.1
  obtain ⟨_, _, -, -, hg1, -⟩ := id hg
  obtain ⟨_, _, -, hy1, -⟩ := id hy
  obtain ⟨wP, wT, wS, wz, wH, wy, wI⟩ := id wx
  obtain ⟨⟨w1, w2, w3, w4, w5, w6, w7⟩, w8⟩ := id wP
  have wcl := wP.1.c_le
  obtain ⟨x1, x2⟩ := hx
  refine qC.of 0 (by decide) (le_b rfl) ?_
  refine qV_iload_n (pc := 0) 1 dX6_type_0 rfl rfl ?_
  refine qV_iflt (pc := 1) 11 dX6_type_1 (by decide) ⟨by omega, by omega⟩ (fun c1 => ?_) (fun c1 => ?_)
  · refine qV_iconst (pc := 11) dX6_type_11 ?_
    refine qV_iret (pc := 12) dX6_type_12 rfl (le_b rfl) (le_b rfl) ?_
    have e0 : oType X x = (-1, X) := if_pos (by omega)
    exact ⟨_, rfl, by rw [e0], by rw [e0]; exact hI, Kp.rf, rfl⟩
  · refine qV_iload_n (pc := 4) 1 dX6_type_4 rfl rfl ?_
    refine qV_sipush (pc := 5) dX6_type_5 rfl ?_
    refine qV_icmp_le (pc := 8) 13 dX6_type_8 (by decide) ⟨by omega, by omega⟩ ⟨by omega, by omega⟩ (fun c8 => ?_) (fun c8 => ?_)
    · refine qV_aload_n (pc := 13) 0 dX6_type_13 rfl rfl ?_
      refine qV_get (pc := 14) kX6 2 (le_b rfl) lk_X6_28 rfl dX6_type_14 (by first | assumption | exact hU_self _ _ _ | (refine (hU_ne (by omega)).trans ?_; first | assumption | exact hU_self _ _ _ | (refine (hU_ne (by omega)).trans ?_; first | assumption | exact hU_self _ _ _ | (refine (hU_ne (by omega)).trans ?_; first | assumption | exact hU_self _ _ _)))) (by exact rfl) ?_
      refine qV_rdV (pc := 17) (c_size ht) nX3_size kX3 lk_X6_50 dX6_type_17 ht.obj ⟨le_b rfl, le_b rfl⟩ ⟨le_b rfl, le_b rfl⟩ rfl (le_b rfl) ?_
      refine qV_bipush (pc := 20) dX6_type_20 rfl ?_
      refine qV_icmp_lt (pc := 22) 28 dX6_type_22 (by decide) ⟨by omega, by omega⟩ ⟨by omega, by omega⟩ (fun c22 => ?_) (fun c22 => ?_)
      · refine qV_aload_n (pc := 28) 0 dX6_type_28 rfl rfl ?_
        refine qV_get (pc := 29) kX6 2 (le_b rfl) lk_X6_28 rfl dX6_type_29 (by first | assumption | exact hU_self _ _ _ | (refine (hU_ne (by omega)).trans ?_; first | assumption | exact hU_self _ _ _ | (refine (hU_ne (by omega)).trans ?_; first | assumption | exact hU_self _ _ _ | (refine (hU_ne (by omega)).trans ?_; first | assumption | exact hU_self _ _ _)))) (by exact rfl) ?_
        refine qV_iload_n (pc := 32) 1 dX6_type_32 rfl rfl ?_
        refine qV_voV (pc := 33) (c_add ht (by omega)) nX3_add kX3 lk_X6_54 dX6_type_33 ht.obj ⟨le_b rfl, le_b rfl⟩ ⟨le_b rfl, le_b rfl⟩ rfl (le_b rfl) ?_
        rintro h2 sz ⟨q1, f1, rfl⟩
        have c1 := c0.tape f1 q1
        have k1 := k0.trans (Kp.of f1 (by omega))
        obtain ⟨ho, hP, ⟨s1, hS⟩, ht, hg, hy, hi, hv⟩ := id c1
        obtain ⟨hp1, hpb, hpc, hpm⟩ := id hP
        have hs1 := hS.1
        obtain ⟨_, _, -, -, hg1, -⟩ := id hg
        obtain ⟨_, _, -, hy1, -⟩ := id hy
        refine qV_aload_n (pc := 36) 0 dX6_type_36 rfl rfl ?_
        refine qV_get (pc := 37) kX6 2 (le_b rfl) lk_X6_28 rfl dX6_type_37 (by first | assumption | exact hU_self _ _ _ | (refine (hU_ne (by omega)).trans ?_; first | assumption | exact hU_self _ _ _ | (refine (hU_ne (by omega)).trans ?_; first | assumption | exact hU_self _ _ _ | (refine (hU_ne (by omega)).trans ?_; first | assumption | exact hU_self _ _ _)))) (by exact rfl) ?_
        refine qV_rdV (pc := 40) (c_size ht) nX3_size kX3 lk_X6_50 dX6_type_40 ht.obj ⟨le_b rfl, le_b rfl⟩ ⟨le_b rfl, le_b rfl⟩ rfl (le_b rfl) ?_
        refine qV_iret (pc := 43) dX6_type_43 rfl (le_b rfl) (le_b rfl) ?_
        have e0 : oType X x = ((X.2.1.1 : Int) + 1, (X.1, (X.2.1.1 + 1, va_up X.2.1.2 X.2.1.1 x), X.2.2)) := by simp only [oType]; rw [if_neg (by omega), if_neg (by omega)]
        exact ⟨_, rfl, by rw [e0]; rfl, by rw [e0]; exact c1, k1, rfl⟩
      · refine qV_bipush (pc := 25) dX6_type_25 rfl ?_
        refine qV_iret (pc := 27) dX6_type_27 rfl (le_b rfl) (le_b rfl) ?_
        have e0 : oType X x = (-3, X) := by simp only [oType]; rw [if_neg (by omega), if_pos (by omega)]
        exact ⟨_, rfl, by rw [e0], by rw [e0]; exact hI, Kp.rf, rfl⟩
    · refine qV_iconst (pc := 11) dX6_type_11 ?_
      refine qV_iret (pc := 12) dX6_type_12 rfl (le_b rfl) (le_b rfl) ?_
      have e0 : oType X x = (-1, X) := if_pos (by omega)
      exact ⟨_, rfl, by rw [e0], by rw [e0]; exact hI, Kp.rf, rfl⟩
set_option maxRecDepth 100000 in
set_option maxHeartbeats 4000000 in
theorem v_clear (hI : CInv h sz v X) (wx : wfX X) : qRt l mX6_clear 0 0 [.ref v] h sz (fun w h' sz' => w = vI (oClear X).1 ∧ CInv h' sz' v (oClear X).2 ∧ Kp h h' v ∧ sz' = sz) := by
  have c0 : CG h sz v X.1 X.1.1 X.1.2.1 X.2.1 X.2.2.1 X.2.2.2.1 X.2.2.2.2 := hI
  have k0 : Kp h h v := Kp.rf
  obtain ⟨ho, hP, ⟨s0, hS⟩, ht, hg, hy, hi, hv⟩ := id c0
  obtain ⟨hp1, hpb, hpc, hpm⟩ := id hP
  have hs1 := hS.1
  obtain ⟨_, _, -, -, hg1, -⟩ := id hg
  obtain ⟨_, _, -, hy1, -⟩ := id hy
  obtain ⟨wP, wT, wS, wz, wH, wy, wI⟩ := id wx
  obtain ⟨⟨w1, w2, w3, w4, w5, w6, w7⟩, w8⟩ := id wP
  have wcl := wP.1.c_le
  refine qC.of 1 (by decide) (le_b rfl) ?_
  refine qV_aload_n (pc := 0) 0 dX6_clear_0 rfl rfl ?_
  refine qV_get (pc := 1) kX6 2 (le_b rfl) lk_X6_28 rfl dX6_clear_1 (by first | assumption | exact hU_self _ _ _ | (refine (hU_ne (by omega)).trans ?_; first | assumption | exact hU_self _ _ _ | (refine (hU_ne (by omega)).trans ?_; first | assumption | exact hU_self _ _ _ | (refine (hU_ne (by omega)).trans ?_; first | assumption | exact hU_self _ _ _)))) (by exact rfl) ?_
  refine qV_rdV (pc := 4) (c_size ht) nX3_size kX3 lk_X6_50 dX6_clear_4 ht.obj ⟨le_b rfl, le_b rfl⟩ ⟨le_b rfl, le_b rfl⟩ rfl (le_b rfl) ?_
  refine qV_istore_n (pc := 7) 1 dX6_clear_7 rfl (le_b rfl) (le_b rfl) rfl ?_
  refine qV_aload_n (pc := 8) 0 dX6_clear_8 rfl rfl ?_
  refine qV_get (pc := 9) kX6 2 (le_b rfl) lk_X6_28 rfl dX6_clear_9 (by first | assumption | exact hU_self _ _ _ | (refine (hU_ne (by omega)).trans ?_; first | assumption | exact hU_self _ _ _ | (refine (hU_ne (by omega)).trans ?_; first | assumption | exact hU_self _ _ _ | (refine (hU_ne (by omega)).trans ?_; first | assumption | exact hU_self _ _ _)))) (by exact rfl) ?_
  refine qV_voV (pc := 12) (c_empties X.2.1.2 ht) nX3_empties kX3 lk_X6_57 dX6_clear_12 ht.obj ⟨le_b rfl, le_b rfl⟩ ⟨le_b rfl, le_b rfl⟩ rfl (le_b rfl) ?_
  rintro h2 sz ⟨q1, f1, rfl⟩
  have c1 := c0.tape f1 q1
  have k1 := k0.trans (Kp.of f1 (by omega))
  obtain ⟨ho, hP, ⟨s1, hS⟩, ht, hg, hy, hi, hv⟩ := id c1
  obtain ⟨hp1, hpb, hpc, hpm⟩ := id hP
  have hs1 := hS.1
  obtain ⟨_, _, -, -, hg1, -⟩ := id hg
  obtain ⟨_, _, -, hy1, -⟩ := id hy
  refine qV_iload_n (pc := 15) 1 dX6_clear_15 rfl rfl ?_
  refine qV_iret (pc := 16) dX6_clear_16 rfl (le_b rfl) (le_b rfl) ?_
  exact ⟨_, rfl, rfl, c1, k1, rfl⟩
set_option maxRecDepth 100000 in
set_option maxHeartbeats 4000000 in
theorem v_edits {x k : Int} (hx : iR x) (hk : iR k) (hI : CInv h sz v X) (wx : wfX X) : qRt l mX6_edits 0 0 [.ref v, vI x, vI k] h sz (fun w h' sz' => w = vI (oEdits X x k).1 ∧ CInv h' sz' v (oEdits X x k).2 ∧ Kp h h' v ∧ sz' = sz) := by
  have c0 : CG h sz v X.1 X.1.1 X.1.2.1 X.2.1 X.2.2.1 X.2.2.2.1 X.2.2.2.2 := hI
  have k0 : Kp h h v := Kp.rf
  obtain ⟨ho, hP, ⟨s0, hS⟩, ht, hg, hy, hi, hv⟩ := id c0
  obtain ⟨hp1, hpb, hpc, hpm⟩ := id hP
  have hs1 := hS.1
  obtain ⟨_, _, -, -, hg1, -⟩ := id hg
  obtain ⟨_, _, -, hy1, -⟩ := id hy
  obtain ⟨wP, wT, wS, wz, wH, wy, wI⟩ := id wx
  obtain ⟨⟨w1, w2, w3, w4, w5, w6, w7⟩, w8⟩ := id wP
  have wcl := wP.1.c_le
  obtain ⟨x1, x2⟩ := hx
  obtain ⟨kk1, kk2⟩ := hk
  refine qC.of 0 (by decide) (le_b rfl) ?_
  refine qV_aload_n (pc := 0) 0 dX6_edits_0 rfl rfl ?_
  refine qV_iload_n (pc := 1) 1 dX6_edits_1 rfl rfl ?_
  refine qV_iload_n (pc := 2) 2 dX6_edits_2 rfl rfl ?_
  refine qV_rdV (pc := 3) (v_isStretch ⟨x1, x2⟩ ⟨kk1, kk2⟩ hI wx) nX6_isStretch kX6 lk_X6_60 dX6_edits_3 (by first | assumption | exact hU_self _ _ _ | (refine (hU_ne (by omega)).trans ?_; first | assumption | exact hU_self _ _ _ | (refine (hU_ne (by omega)).trans ?_; first | assumption | exact hU_self _ _ _ | (refine (hU_ne (by omega)).trans ?_; first | assumption | exact hU_self _ _ _)))) ⟨le_b rfl, le_b rfl⟩ ⟨le_b rfl, le_b rfl⟩ rfl (le_b rfl) ?_
  refine qV_ifneB (pc := 6) 11 dX6_edits_6 (by decide) (fun c6 => ?_) (fun c6 => ?_)
  · refine qV_aload_n (pc := 11) 0 dX6_edits_11 rfl rfl ?_
    refine qV_get (pc := 12) kX6 3 (le_b rfl) lk_X6_35 rfl dX6_edits_12 (by first | assumption | exact hU_self _ _ _ | (refine (hU_ne (by omega)).trans ?_; first | assumption | exact hU_self _ _ _ | (refine (hU_ne (by omega)).trans ?_; first | assumption | exact hU_self _ _ _ | (refine (hU_ne (by omega)).trans ?_; first | assumption | exact hU_self _ _ _)))) (by exact rfl) ?_
    refine qV_rdV (pc := 15) (c_Stg_size hg) nX4_size kX4 lk_X6_64 dX6_edits_15 (by first | assumption | exact hU_self _ _ _ | (refine (hU_ne (by omega)).trans ?_; first | assumption | exact hU_self _ _ _ | (refine (hU_ne (by omega)).trans ?_; first | assumption | exact hU_self _ _ _ | (refine (hU_ne (by omega)).trans ?_; first | assumption | exact hU_self _ _ _)))) ⟨le_b rfl, le_b rfl⟩ ⟨le_b rfl, le_b rfl⟩ rfl (le_b rfl) ?_
    refine qV_ifle (pc := 18) 24 dX6_edits_18 (by decide) ⟨by omega, by omega⟩ (fun c18 => ?_) (fun c18 => ?_)
    · refine qV_aload_n (pc := 24) 0 dX6_edits_24 rfl rfl ?_
      refine qV_get (pc := 25) kX6 0 (le_b rfl) lk_X6_14 rfl dX6_edits_25 (by first | assumption | exact hU_self _ _ _ | (refine (hU_ne (by omega)).trans ?_; first | assumption | exact hU_self _ _ _ | (refine (hU_ne (by omega)).trans ?_; first | assumption | exact hU_self _ _ _ | (refine (hU_ne (by omega)).trans ?_; first | assumption | exact hU_self _ _ _)))) (by exact rfl) ?_
      refine qV_get (pc := 28) kX2 0 (le_b rfl) lk_X6_65 rfl dX6_edits_28 (by first | assumption | exact hU_self _ _ _ | (refine (hU_ne (by omega)).trans ?_; first | assumption | exact hU_self _ _ _ | (refine (hU_ne (by omega)).trans ?_; first | assumption | exact hU_self _ _ _ | (refine (hU_ne (by omega)).trans ?_; first | assumption | exact hU_self _ _ _)))) (by exact rfl) ?_
      refine qV_rdV (pc := 31) (c_size hpb) nX3_size kX3 lk_X6_50 dX6_edits_31 hpb.obj ⟨le_b rfl, le_b rfl⟩ ⟨le_b rfl, le_b rfl⟩ rfl (le_b rfl) ?_
      refine qV_iload_n (pc := 34) 2 dX6_edits_34 rfl rfl ?_
      refine qV_isub (pc := 35) dX6_edits_35 ?_
      refine qV_aload_n (pc := 36) 0 dX6_edits_36 rfl rfl ?_
      refine qV_get (pc := 37) kX6 2 (le_b rfl) lk_X6_28 rfl dX6_edits_37 (by first | assumption | exact hU_self _ _ _ | (refine (hU_ne (by omega)).trans ?_; first | assumption | exact hU_self _ _ _ | (refine (hU_ne (by omega)).trans ?_; first | assumption | exact hU_self _ _ _ | (refine (hU_ne (by omega)).trans ?_; first | assumption | exact hU_self _ _ _)))) (by exact rfl) ?_
      refine qV_rdV (pc := 40) (c_size ht) nX3_size kX3 lk_X6_50 dX6_edits_40 ht.obj ⟨le_b rfl, le_b rfl⟩ ⟨le_b rfl, le_b rfl⟩ rfl (le_b rfl) ?_
      refine qV_iadd (pc := 43) dX6_edits_43 ?_
      refine qV_bipush (pc := 44) dX6_edits_44 rfl ?_
      refine qV_icmp_le (pc := 46) 52 dX6_edits_46 (by decide) ⟨by omega, by omega⟩ ⟨by omega, by omega⟩ (fun c46 => ?_) (fun c46 => ?_)
      · have hst := c6
        have wE : wfm (edP X.1 x.toNat k.toNat X.2.1.1 X.2.1.2) := wfm_ed wP (by omega) wT.1 wT.2 (by omega)
        have hnE := ed_n (P := X.1) (p := x.toNat) (k := k.toNat) (m := X.2.1.1) (W := X.2.1.2)
        refine qV_aload_n (pc := 52) 0 dX6_edits_52 rfl rfl ?_
        refine qV_get (pc := 53) kX6 4 (le_b rfl) lk_X6_42 rfl dX6_edits_53 (by first | assumption | exact hU_self _ _ _ | (refine (hU_ne (by omega)).trans ?_; first | assumption | exact hU_self _ _ _ | (refine (hU_ne (by omega)).trans ?_; first | assumption | exact hU_self _ _ _ | (refine (hU_ne (by omega)).trans ?_; first | assumption | exact hU_self _ _ _)))) (by exact rfl) ?_
        refine qV_aload_n (pc := 56) 0 dX6_edits_56 rfl rfl ?_
        refine qV_get (pc := 57) kX6 0 (le_b rfl) lk_X6_14 rfl dX6_edits_57 (by first | assumption | exact hU_self _ _ _ | (refine (hU_ne (by omega)).trans ?_; first | assumption | exact hU_self _ _ _ | (refine (hU_ne (by omega)).trans ?_; first | assumption | exact hU_self _ _ _ | (refine (hU_ne (by omega)).trans ?_; first | assumption | exact hU_self _ _ _)))) (by exact rfl) ?_
        refine qV_voV (pc := 60) (c_remembers hy hP (by omega) (by omega) (by omega)) nX1_remembers kX1 lk_X6_68 dX6_edits_60 (by first | assumption | exact hU_self _ _ _ | (refine (hU_ne (by omega)).trans ?_; first | assumption | exact hU_self _ _ _ | (refine (hU_ne (by omega)).trans ?_; first | assumption | exact hU_self _ _ _ | (refine (hU_ne (by omega)).trans ?_; first | assumption | exact hU_self _ _ _)))) ⟨le_b rfl, le_b rfl⟩ ⟨le_b rfl, le_b rfl⟩ rfl (le_b rfl) ?_
        rintro h2 sz ⟨q1, f1, rfl⟩
        have c1 := c0.hst f1 q1
        have k1 := k0.trans (Kp.of f1 (by omega))
        obtain ⟨ho, hP, ⟨s1, hS⟩, ht, hg, hy, hi, hv⟩ := id c1
        obtain ⟨hp1, hpb, hpc, hpm⟩ := id hP
        have hs1 := hS.1
        obtain ⟨_, _, -, -, hg1, -⟩ := id hg
        obtain ⟨_, _, -, hy1, -⟩ := id hy
        refine qV_aload_n (pc := 63) 0 dX6_edits_63 rfl rfl ?_
        refine qV_get (pc := 64) kX6 0 (le_b rfl) lk_X6_14 rfl dX6_edits_64 (by first | assumption | exact hU_self _ _ _ | (refine (hU_ne (by omega)).trans ?_; first | assumption | exact hU_self _ _ _ | (refine (hU_ne (by omega)).trans ?_; first | assumption | exact hU_self _ _ _ | (refine (hU_ne (by omega)).trans ?_; first | assumption | exact hU_self _ _ _)))) (by exact rfl) ?_
        refine qV_iload_n (pc := 67) 1 dX6_edits_67 rfl rfl ?_
        refine qV_iload_n (pc := 68) 2 dX6_edits_68 rfl rfl ?_
        refine qV_aload_n (pc := 69) 0 dX6_edits_69 rfl rfl ?_
        refine qV_get (pc := 70) kX6 2 (le_b rfl) lk_X6_28 rfl dX6_edits_70 (by first | assumption | exact hU_self _ _ _ | (refine (hU_ne (by omega)).trans ?_; first | assumption | exact hU_self _ _ _ | (refine (hU_ne (by omega)).trans ?_; first | assumption | exact hU_self _ _ _ | (refine (hU_ne (by omega)).trans ?_; first | assumption | exact hU_self _ _ _)))) (by exact rfl) ?_
        refine qV_voV (pc := 73) (c_replaces (i := x.toNat) (k := k.toNat) hP (wP.1.up (by omega)) (by omega) (by omega) (by omega) wT.1 (by omega) ht (by omega)) nX2_replaces kX2 lk_X6_72 dX6_edits_73 (by first | assumption | exact hU_self _ _ _ | (refine (hU_ne (by omega)).trans ?_; first | assumption | exact hU_self _ _ _ | (refine (hU_ne (by omega)).trans ?_; first | assumption | exact hU_self _ _ _ | (refine (hU_ne (by omega)).trans ?_; first | assumption | exact hU_self _ _ _)))) ⟨le_b rfl, le_b rfl⟩ ⟨le_b rfl, le_b rfl⟩ rfl (le_b rfl) ?_
        rintro h3 sz ⟨q2, f2, rfl⟩
        have c2 := c1.text f2 q2
        have k2 := k1.trans (Kp.of f2 (by omega))
        obtain ⟨ho, hP, ⟨s2, hS⟩, ht, hg, hy, hi, hv⟩ := id c2
        obtain ⟨hp1, hpb, hpc, hpm⟩ := id hP
        have hs1 := hS.1
        obtain ⟨_, _, -, -, hg1, -⟩ := id hg
        obtain ⟨_, _, -, hy1, -⟩ := id hy
        refine qV_aload_n (pc := 76) 0 dX6_edits_76 rfl rfl ?_
        refine qV_get (pc := 77) kX6 2 (le_b rfl) lk_X6_28 rfl dX6_edits_77 (by first | assumption | exact hU_self _ _ _ | (refine (hU_ne (by omega)).trans ?_; first | assumption | exact hU_self _ _ _ | (refine (hU_ne (by omega)).trans ?_; first | assumption | exact hU_self _ _ _ | (refine (hU_ne (by omega)).trans ?_; first | assumption | exact hU_self _ _ _)))) (by exact rfl) ?_
        refine qV_voV (pc := 80) (c_empties X.2.1.2 ht) nX3_empties kX3 lk_X6_57 dX6_edits_80 ht.obj ⟨le_b rfl, le_b rfl⟩ ⟨le_b rfl, le_b rfl⟩ rfl (le_b rfl) ?_
        rintro h4 sz ⟨q3, f3, rfl⟩
        have c3 := c2.tape f3 q3
        have k3 := k2.trans (Kp.of f3 (by omega))
        obtain ⟨ho, hP, ⟨s3, hS⟩, ht, hg, hy, hi, hv⟩ := id c3
        obtain ⟨hp1, hpb, hpc, hpm⟩ := id hP
        have hs1 := hS.1
        obtain ⟨_, _, -, -, hg1, -⟩ := id hg
        obtain ⟨_, _, -, hy1, -⟩ := id hy
        refine qV_aload_n (pc := 83) 0 dX6_edits_83 rfl rfl ?_
        refine qV_get (pc := 84) kX6 1 (le_b rfl) lk_X6_21 rfl dX6_edits_84 (by first | assumption | exact hU_self _ _ _ | (refine (hU_ne (by omega)).trans ?_; first | assumption | exact hU_self _ _ _ | (refine (hU_ne (by omega)).trans ?_; first | assumption | exact hU_self _ _ _ | (refine (hU_ne (by omega)).trans ?_; first | assumption | exact hU_self _ _ _)))) (by exact rfl) ?_
        refine qV_aload_n (pc := 87) 0 dX6_edits_87 rfl rfl ?_
        refine qV_get (pc := 88) kX6 0 (le_b rfl) lk_X6_14 rfl dX6_edits_88 (by first | assumption | exact hU_self _ _ _ | (refine (hU_ne (by omega)).trans ?_; first | assumption | exact hU_self _ _ _ | (refine (hU_ne (by omega)).trans ?_; first | assumption | exact hU_self _ _ _ | (refine (hU_ne (by omega)).trans ?_; first | assumption | exact hU_self _ _ _)))) (by exact rfl) ?_
        refine qV_get (pc := 91) kX2 0 (le_b rfl) lk_X6_65 rfl dX6_edits_91 (by first | assumption | exact hU_self _ _ _ | (refine (hU_ne (by omega)).trans ?_; first | assumption | exact hU_self _ _ _ | (refine (hU_ne (by omega)).trans ?_; first | assumption | exact hU_self _ _ _ | (refine (hU_ne (by omega)).trans ?_; first | assumption | exact hU_self _ _ _)))) (by exact rfl) ?_
        refine qV_voV (pc := 94) (c_measures hS hpb wE.1.1 wE.1.2.1 (by omega)) nX5_measures kX5 lk_X6_76 dX6_edits_94 (by first | assumption | exact hU_self _ _ _ | (refine (hU_ne (by omega)).trans ?_; first | assumption | exact hU_self _ _ _ | (refine (hU_ne (by omega)).trans ?_; first | assumption | exact hU_self _ _ _ | (refine (hU_ne (by omega)).trans ?_; first | assumption | exact hU_self _ _ _)))) ⟨le_b rfl, le_b rfl⟩ ⟨le_b rfl, le_b rfl⟩ rfl (le_b rfl) ?_
        rintro h5 sz ⟨q4, f4, rfl⟩
        have c4 := c3.sums f4 q4
        have k4 := k3.trans (Kp.of f4 (by omega))
        obtain ⟨ho, hP, ⟨s4, hS⟩, ht, hg, hy, hi, hv⟩ := id c4
        obtain ⟨hp1, hpb, hpc, hpm⟩ := id hP
        have hs1 := hS.1
        obtain ⟨_, _, -, -, hg1, -⟩ := id hg
        obtain ⟨_, _, -, hy1, -⟩ := id hy
        refine qV_aload_n (pc := 97) 0 dX6_edits_97 rfl rfl ?_
        refine qV_get (pc := 98) kX6 0 (le_b rfl) lk_X6_14 rfl dX6_edits_98 (by first | assumption | exact hU_self _ _ _ | (refine (hU_ne (by omega)).trans ?_; first | assumption | exact hU_self _ _ _ | (refine (hU_ne (by omega)).trans ?_; first | assumption | exact hU_self _ _ _ | (refine (hU_ne (by omega)).trans ?_; first | assumption | exact hU_self _ _ _)))) (by exact rfl) ?_
        refine qV_get (pc := 101) kX2 0 (le_b rfl) lk_X6_65 rfl dX6_edits_101 (by first | assumption | exact hU_self _ _ _ | (refine (hU_ne (by omega)).trans ?_; first | assumption | exact hU_self _ _ _ | (refine (hU_ne (by omega)).trans ?_; first | assumption | exact hU_self _ _ _ | (refine (hU_ne (by omega)).trans ?_; first | assumption | exact hU_self _ _ _)))) (by exact rfl) ?_
        refine qV_rdV (pc := 104) (c_size hpb) nX3_size kX3 lk_X6_50 dX6_edits_104 hpb.obj ⟨le_b rfl, le_b rfl⟩ ⟨le_b rfl, le_b rfl⟩ rfl (le_b rfl) ?_
        refine qV_iret (pc := 107) dX6_edits_107 rfl (le_b rfl) (le_b rfl) ?_
        have e0 : oEdits X x k = ((X.1.1 : Int) - k + X.2.1.1, ((edP X.1 x.toNat k.toNat X.2.1.1 X.2.1.2), (0, X.2.1.2), X.2.2.1, (pushH X.2.2.2.1.1 X.1, min (X.2.2.2.1.2 + 1) 8), X.2.2.2.2)) := by simp only [oEdits]; rw [if_neg (fun z => z c6), if_neg (by omega), if_neg (by omega)]
        refine ⟨_, rfl, ?_, by rw [e0]; exact c4, k4, rfl⟩
        rw [e0]
        congr 1
        omega
      · refine qV_bipush (pc := 49) dX6_edits_49 rfl ?_
        refine qV_iret (pc := 51) dX6_edits_51 rfl (le_b rfl) (le_b rfl) ?_
        have e0 : oEdits X x k = (-3, X) := by simp only [oEdits]; rw [if_neg (fun z => z c6), if_neg (by omega), if_pos (by omega)]
        exact ⟨_, rfl, by rw [e0], by rw [e0]; exact hI, Kp.rf, rfl⟩
    · refine qV_bipush (pc := 21) dX6_edits_21 rfl ?_
      refine qV_iret (pc := 23) dX6_edits_23 rfl (le_b rfl) (le_b rfl) ?_
      have e0 : oEdits X x k = (-2, X) := by simp only [oEdits]; rw [if_neg (fun z => z c6), if_pos (by omega)]
      exact ⟨_, rfl, by rw [e0], by rw [e0]; exact hI, Kp.rf, rfl⟩
  · refine qV_iconst (pc := 9) dX6_edits_9 ?_
    refine qV_iret (pc := 10) dX6_edits_10 rfl (le_b rfl) (le_b rfl) ?_
    have e0 : oEdits X x k = (-1, X) := if_pos c6
    exact ⟨_, rfl, by rw [e0], by rw [e0]; exact hI, Kp.rf, rfl⟩
set_option maxRecDepth 100000 in
set_option maxHeartbeats 4000000 in
theorem v_stages {x k : Int} (hx : iR x) (hk : iR k) (hI : CInv h sz v X) (wx : wfX X) : qRt l mX6_stages 0 0 [.ref v, vI x, vI k] h sz (fun w h' sz' => w = vI (oStages X x k).1 ∧ CInv h' sz' v (oStages X x k).2 ∧ Kp h h' v ∧ sz' = sz) := by
  have c0 : CG h sz v X.1 X.1.1 X.1.2.1 X.2.1 X.2.2.1 X.2.2.2.1 X.2.2.2.2 := hI
  have k0 : Kp h h v := Kp.rf
  obtain ⟨ho, hP, ⟨s0, hS⟩, ht, hg, hy, hi, hv⟩ := id c0
  obtain ⟨hp1, hpb, hpc, hpm⟩ := id hP
  have hs1 := hS.1
  obtain ⟨_, _, -, -, hg1, -⟩ := id hg
  obtain ⟨_, _, -, hy1, -⟩ := id hy
  obtain ⟨wP, wT, wS, wz, wH, wy, wI⟩ := id wx
  obtain ⟨⟨w1, w2, w3, w4, w5, w6, w7⟩, w8⟩ := id wP
  have wcl := wP.1.c_le
  obtain ⟨x1, x2⟩ := hx
  obtain ⟨kk1, kk2⟩ := hk
  have hsb : ∀ i, i < X.2.2.1.2 → (X.2.2.1.1 i).1 ≤ 5000 ∧ (X.2.2.1.1 i).2.1 ≤ 5000 := fun i hi => by have := wS.2.2 i hi; omega
  refine qC.of 0 (by decide) (le_b rfl) ?_
  refine qV_aload_n (pc := 0) 0 dX6_stages_0 rfl rfl ?_
  refine qV_iload_n (pc := 1) 1 dX6_stages_1 rfl rfl ?_
  refine qV_iload_n (pc := 2) 2 dX6_stages_2 rfl rfl ?_
  refine qV_rdV (pc := 3) (v_isStretch ⟨x1, x2⟩ ⟨kk1, kk2⟩ hI wx) nX6_isStretch kX6 lk_X6_60 dX6_stages_3 (by first | assumption | exact hU_self _ _ _ | (refine (hU_ne (by omega)).trans ?_; first | assumption | exact hU_self _ _ _ | (refine (hU_ne (by omega)).trans ?_; first | assumption | exact hU_self _ _ _ | (refine (hU_ne (by omega)).trans ?_; first | assumption | exact hU_self _ _ _)))) ⟨le_b rfl, le_b rfl⟩ ⟨le_b rfl, le_b rfl⟩ rfl (le_b rfl) ?_
  refine qV_ifneB (pc := 6) 11 dX6_stages_6 (by decide) (fun c6 => ?_) (fun c6 => ?_)
  · have hst := c6
    refine qV_aload_n (pc := 11) 0 dX6_stages_11 rfl rfl ?_
    refine qV_get (pc := 12) kX6 3 (le_b rfl) lk_X6_35 rfl dX6_stages_12 (by first | assumption | exact hU_self _ _ _ | (refine (hU_ne (by omega)).trans ?_; first | assumption | exact hU_self _ _ _ | (refine (hU_ne (by omega)).trans ?_; first | assumption | exact hU_self _ _ _ | (refine (hU_ne (by omega)).trans ?_; first | assumption | exact hU_self _ _ _)))) (by exact rfl) ?_
    refine qV_iload_n (pc := 15) 1 dX6_stages_15 rfl rfl ?_
    refine qV_iload_n (pc := 16) 2 dX6_stages_16 rfl rfl ?_
    refine qV_rdV (pc := 17) (c_touches hg (by omega) (by omega) hsb) nX4_touches kX4 lk_X6_80 dX6_stages_17 (by first | assumption | exact hU_self _ _ _ | (refine (hU_ne (by omega)).trans ?_; first | assumption | exact hU_self _ _ _ | (refine (hU_ne (by omega)).trans ?_; first | assumption | exact hU_self _ _ _ | (refine (hU_ne (by omega)).trans ?_; first | assumption | exact hU_self _ _ _)))) ⟨le_b rfl, le_b rfl⟩ ⟨le_b rfl, le_b rfl⟩ rfl (le_b rfl) ?_
    refine qV_ifeqB (pc := 20) 26 dX6_stages_20 (by decide) (fun c20 => ?_) (fun c20 => ?_)
    · refine qV_aload_n (pc := 26) 0 dX6_stages_26 rfl rfl ?_
      refine qV_get (pc := 27) kX6 3 (le_b rfl) lk_X6_35 rfl dX6_stages_27 (by first | assumption | exact hU_self _ _ _ | (refine (hU_ne (by omega)).trans ?_; first | assumption | exact hU_self _ _ _ | (refine (hU_ne (by omega)).trans ?_; first | assumption | exact hU_self _ _ _ | (refine (hU_ne (by omega)).trans ?_; first | assumption | exact hU_self _ _ _)))) (by exact rfl) ?_
      refine qV_rdV (pc := 30) (c_Stg_size hg) nX4_size kX4 lk_X6_64 dX6_stages_30 (by first | assumption | exact hU_self _ _ _ | (refine (hU_ne (by omega)).trans ?_; first | assumption | exact hU_self _ _ _ | (refine (hU_ne (by omega)).trans ?_; first | assumption | exact hU_self _ _ _ | (refine (hU_ne (by omega)).trans ?_; first | assumption | exact hU_self _ _ _)))) ⟨le_b rfl, le_b rfl⟩ ⟨le_b rfl, le_b rfl⟩ rfl (le_b rfl) ?_
      refine qV_iconst (pc := 33) dX6_stages_33 ?_
      refine qV_icmp_lt (pc := 34) 40 dX6_stages_34 (by decide) ⟨by omega, by omega⟩ ⟨by omega, by omega⟩ (fun c34 => ?_) (fun c34 => ?_)
      · refine qV_aload_n (pc := 40) 0 dX6_stages_40 rfl rfl ?_
        refine qV_get (pc := 41) kX6 3 (le_b rfl) lk_X6_35 rfl dX6_stages_41 (by first | assumption | exact hU_self _ _ _ | (refine (hU_ne (by omega)).trans ?_; first | assumption | exact hU_self _ _ _ | (refine (hU_ne (by omega)).trans ?_; first | assumption | exact hU_self _ _ _ | (refine (hU_ne (by omega)).trans ?_; first | assumption | exact hU_self _ _ _)))) (by exact rfl) ?_
        refine qV_iload_n (pc := 44) 1 dX6_stages_44 rfl rfl ?_
        refine qV_iload_n (pc := 45) 2 dX6_stages_45 rfl rfl ?_
        refine qV_aload_n (pc := 46) 0 dX6_stages_46 rfl rfl ?_
        refine qV_get (pc := 47) kX6 2 (le_b rfl) lk_X6_28 rfl dX6_stages_47 (by first | assumption | exact hU_self _ _ _ | (refine (hU_ne (by omega)).trans ?_; first | assumption | exact hU_self _ _ _ | (refine (hU_ne (by omega)).trans ?_; first | assumption | exact hU_self _ _ _ | (refine (hU_ne (by omega)).trans ?_; first | assumption | exact hU_self _ _ _)))) (by exact rfl) ?_
        refine qV_voV (pc := 50) (c_adds (i := x.toNat) (k := k.toNat) hg (by omega) (by omega) (by omega) (by omega) hsb ht wT.1 (by omega)) nX4_adds kX4 lk_X6_83 dX6_stages_50 (by first | assumption | exact hU_self _ _ _ | (refine (hU_ne (by omega)).trans ?_; first | assumption | exact hU_self _ _ _ | (refine (hU_ne (by omega)).trans ?_; first | assumption | exact hU_self _ _ _ | (refine (hU_ne (by omega)).trans ?_; first | assumption | exact hU_self _ _ _)))) ⟨le_b rfl, le_b rfl⟩ ⟨le_b rfl, le_b rfl⟩ rfl (le_b rfl) ?_
        rintro h2 sz ⟨q1, f1, rfl⟩
        have c1 := c0.stg f1 q1
        have k1 := k0.trans (Kp.of f1 (by omega))
        obtain ⟨ho, hP, ⟨s1, hS⟩, ht, hg, hy, hi, hv⟩ := id c1
        obtain ⟨hp1, hpb, hpc, hpm⟩ := id hP
        have hs1 := hS.1
        obtain ⟨_, _, -, -, hg1, -⟩ := id hg
        obtain ⟨_, _, -, hy1, -⟩ := id hy
        refine qV_aload_n (pc := 53) 0 dX6_stages_53 rfl rfl ?_
        refine qV_get (pc := 54) kX6 2 (le_b rfl) lk_X6_28 rfl dX6_stages_54 (by first | assumption | exact hU_self _ _ _ | (refine (hU_ne (by omega)).trans ?_; first | assumption | exact hU_self _ _ _ | (refine (hU_ne (by omega)).trans ?_; first | assumption | exact hU_self _ _ _ | (refine (hU_ne (by omega)).trans ?_; first | assumption | exact hU_self _ _ _)))) (by exact rfl) ?_
        refine qV_voV (pc := 57) (c_empties X.2.1.2 ht) nX3_empties kX3 lk_X6_57 dX6_stages_57 ht.obj ⟨le_b rfl, le_b rfl⟩ ⟨le_b rfl, le_b rfl⟩ rfl (le_b rfl) ?_
        rintro h3 sz ⟨q2, f2, rfl⟩
        have c2 := c1.tape f2 q2
        have k2 := k1.trans (Kp.of f2 (by omega))
        obtain ⟨ho, hP, ⟨s2, hS⟩, ht, hg, hy, hi, hv⟩ := id c2
        obtain ⟨hp1, hpb, hpc, hpm⟩ := id hP
        have hs1 := hS.1
        obtain ⟨_, _, -, -, hg1, -⟩ := id hg
        obtain ⟨_, _, -, hy1, -⟩ := id hy
        refine qV_aload_n (pc := 60) 0 dX6_stages_60 rfl rfl ?_
        refine qV_get (pc := 61) kX6 3 (le_b rfl) lk_X6_35 rfl dX6_stages_61 (by first | assumption | exact hU_self _ _ _ | (refine (hU_ne (by omega)).trans ?_; first | assumption | exact hU_self _ _ _ | (refine (hU_ne (by omega)).trans ?_; first | assumption | exact hU_self _ _ _ | (refine (hU_ne (by omega)).trans ?_; first | assumption | exact hU_self _ _ _)))) (by exact rfl) ?_
        refine qV_rdV (pc := 64) (c_Stg_size hg) nX4_size kX4 lk_X6_64 dX6_stages_64 (by first | assumption | exact hU_self _ _ _ | (refine (hU_ne (by omega)).trans ?_; first | assumption | exact hU_self _ _ _ | (refine (hU_ne (by omega)).trans ?_; first | assumption | exact hU_self _ _ _ | (refine (hU_ne (by omega)).trans ?_; first | assumption | exact hU_self _ _ _)))) ⟨le_b rfl, le_b rfl⟩ ⟨le_b rfl, le_b rfl⟩ rfl (le_b rfl) ?_
        refine qV_iret (pc := 67) dX6_stages_67 rfl (le_b rfl) (le_b rfl) ?_
        have e0 : oStages X x k = ((X.2.2.1.2 : Int) + 1, (X.1, (0, X.2.1.2), (insS X.2.2.1.1 (pos X.2.2.1.1 x X.2.2.1.2) (x.toNat, k.toNat, X.2.1.1, X.2.1.2), X.2.2.1.2 + 1), X.2.2.2)) := by simp only [oStages]; rw [if_neg (fun z => z c6), if_neg c20, if_neg (by omega)]
        exact ⟨_, rfl, by rw [e0]; rfl, by rw [e0]; exact c2, k2, rfl⟩
      · refine qV_bipush (pc := 37) dX6_stages_37 rfl ?_
        refine qV_iret (pc := 39) dX6_stages_39 rfl (le_b rfl) (le_b rfl) ?_
        have e0 : oStages X x k = (-3, X) := by simp only [oStages]; rw [if_neg (fun z => z c6), if_neg c20, if_pos (by omega)]
        exact ⟨_, rfl, by rw [e0], by rw [e0]; exact hI, Kp.rf, rfl⟩
    · refine qV_bipush (pc := 23) dX6_stages_23 rfl ?_
      refine qV_iret (pc := 25) dX6_stages_25 rfl (le_b rfl) (le_b rfl) ?_
      have e0 : oStages X x k = (-2, X) := by simp only [oStages]; rw [if_neg (fun z => z c6), if_pos c20]
      exact ⟨_, rfl, by rw [e0], by rw [e0]; exact hI, Kp.rf, rfl⟩
  · refine qV_iconst (pc := 9) dX6_stages_9 ?_
    refine qV_iret (pc := 10) dX6_stages_10 rfl (le_b rfl) (le_b rfl) ?_
    have e0 : oStages X x k = (-1, X) := if_pos c6
    exact ⟨_, rfl, by rw [e0], by rw [e0]; exact hI, Kp.rf, rfl⟩
set_option maxRecDepth 100000 in
set_option maxHeartbeats 4000000 in
theorem v_does (hI : CInv h sz v X) (wx : wfX X) : qRt l mX6_does 0 0 [.ref v] h sz (fun w h' sz' => w = vI (oDoes X).1 ∧ CInv h' sz' v (oDoes X).2 ∧ Kp h h' v ∧ sz' = sz) := by
  have c0 : CG h sz v X.1 X.1.1 X.1.2.1 X.2.1 X.2.2.1 X.2.2.2.1 X.2.2.2.2 := hI
  have k0 : Kp h h v := Kp.rf
  obtain ⟨ho, hP, ⟨s0, hS⟩, ht, hg, hy, hi, hv⟩ := id c0
  obtain ⟨hp1, hpb, hpc, hpm⟩ := id hP
  have hs1 := hS.1
  obtain ⟨_, _, -, -, hg1, -⟩ := id hg
  obtain ⟨_, _, -, hy1, -⟩ := id hy
  obtain ⟨wP, wT, wS, wz, wH, wy, wI⟩ := id wx
  obtain ⟨⟨w1, w2, w3, w4, w5, w6, w7⟩, w8⟩ := id wP
  have wcl := wP.1.c_le
  have hgr : ∀ z : Nat, z ≤ X.2.2.1.2 → -1000 ≤ grw X.2.2.1.1 z ∧ grw X.2.2.1.1 z ≤ 1000 := by
    have hh : ∀ z : Nat, z ≤ X.2.2.1.2 → -200 * (z : Int) ≤ grw X.2.2.1.1 z ∧ grw X.2.2.1.1 z ≤ 200 * (z : Int) := by
      intro z
      induction z with
      | zero => intro _; simp [grw]
      | succ z ih =>
        intro hz
        have h1 := ih (by omega)
        have h2 := (wS.1 z (by omega)).1
        have h3 := wS.2.2 z (by omega)
        simp only [grw]
        omega
    intro z hz
    have := hh z hz
    omega
  have hg9 := hgr X.2.2.1.2 (Nat.le_refl _)
  refine qC.of 0 (by decide) (le_b rfl) ?_
  refine qV_aload_n (pc := 0) 0 dX6_does_0 rfl rfl ?_
  refine qV_get (pc := 1) kX6 3 (le_b rfl) lk_X6_35 rfl dX6_does_1 (by first | assumption | exact hU_self _ _ _ | (refine (hU_ne (by omega)).trans ?_; first | assumption | exact hU_self _ _ _ | (refine (hU_ne (by omega)).trans ?_; first | assumption | exact hU_self _ _ _ | (refine (hU_ne (by omega)).trans ?_; first | assumption | exact hU_self _ _ _)))) (by exact rfl) ?_
  refine qV_rdV (pc := 4) (c_Stg_size hg) nX4_size kX4 lk_X6_64 dX6_does_4 (by first | assumption | exact hU_self _ _ _ | (refine (hU_ne (by omega)).trans ?_; first | assumption | exact hU_self _ _ _ | (refine (hU_ne (by omega)).trans ?_; first | assumption | exact hU_self _ _ _ | (refine (hU_ne (by omega)).trans ?_; first | assumption | exact hU_self _ _ _)))) ⟨le_b rfl, le_b rfl⟩ ⟨le_b rfl, le_b rfl⟩ rfl (le_b rfl) ?_
  refine qV_ifne (pc := 7) 13 dX6_does_7 (by decide) ⟨by omega, by omega⟩ (fun c7 => ?_) (fun c7 => ?_)
  · refine qV_aload_n (pc := 13) 0 dX6_does_13 rfl rfl ?_
    refine qV_get (pc := 14) kX6 0 (le_b rfl) lk_X6_14 rfl dX6_does_14 (by first | assumption | exact hU_self _ _ _ | (refine (hU_ne (by omega)).trans ?_; first | assumption | exact hU_self _ _ _ | (refine (hU_ne (by omega)).trans ?_; first | assumption | exact hU_self _ _ _ | (refine (hU_ne (by omega)).trans ?_; first | assumption | exact hU_self _ _ _)))) (by exact rfl) ?_
    refine qV_get (pc := 17) kX2 0 (le_b rfl) lk_X6_65 rfl dX6_does_17 (by first | assumption | exact hU_self _ _ _ | (refine (hU_ne (by omega)).trans ?_; first | assumption | exact hU_self _ _ _ | (refine (hU_ne (by omega)).trans ?_; first | assumption | exact hU_self _ _ _ | (refine (hU_ne (by omega)).trans ?_; first | assumption | exact hU_self _ _ _)))) (by exact rfl) ?_
    refine qV_rdV (pc := 20) (c_size hpb) nX3_size kX3 lk_X6_50 dX6_does_20 hpb.obj ⟨le_b rfl, le_b rfl⟩ ⟨le_b rfl, le_b rfl⟩ rfl (le_b rfl) ?_
    refine qV_aload_n (pc := 23) 0 dX6_does_23 rfl rfl ?_
    refine qV_get (pc := 24) kX6 3 (le_b rfl) lk_X6_35 rfl dX6_does_24 (by first | assumption | exact hU_self _ _ _ | (refine (hU_ne (by omega)).trans ?_; first | assumption | exact hU_self _ _ _ | (refine (hU_ne (by omega)).trans ?_; first | assumption | exact hU_self _ _ _ | (refine (hU_ne (by omega)).trans ?_; first | assumption | exact hU_self _ _ _)))) (by exact rfl) ?_
    refine qV_rdV (pc := 27) (c_growth hg) nX4_growth kX4 lk_X6_86 dX6_does_27 (by first | assumption | exact hU_self _ _ _ | (refine (hU_ne (by omega)).trans ?_; first | assumption | exact hU_self _ _ _ | (refine (hU_ne (by omega)).trans ?_; first | assumption | exact hU_self _ _ _ | (refine (hU_ne (by omega)).trans ?_; first | assumption | exact hU_self _ _ _)))) ⟨le_b rfl, le_b rfl⟩ ⟨le_b rfl, le_b rfl⟩ rfl (le_b rfl) ?_
    refine qV_iadd (pc := 30) dX6_does_30 ?_
    refine qV_bipush (pc := 31) dX6_does_31 rfl ?_
    refine qV_icmp_le (pc := 33) 39 dX6_does_33 (by decide) ⟨by omega, by omega⟩ ⟨by omega, by omega⟩ (fun c33 => ?_) (fun c33 => ?_)
    · have wE := wfm_do wP wS wz (by omega)
      refine qV_aload_n (pc := 39) 0 dX6_does_39 rfl rfl ?_
      refine qV_get (pc := 40) kX6 4 (le_b rfl) lk_X6_42 rfl dX6_does_40 (by first | assumption | exact hU_self _ _ _ | (refine (hU_ne (by omega)).trans ?_; first | assumption | exact hU_self _ _ _ | (refine (hU_ne (by omega)).trans ?_; first | assumption | exact hU_self _ _ _ | (refine (hU_ne (by omega)).trans ?_; first | assumption | exact hU_self _ _ _)))) (by exact rfl) ?_
      refine qV_aload_n (pc := 43) 0 dX6_does_43 rfl rfl ?_
      refine qV_get (pc := 44) kX6 0 (le_b rfl) lk_X6_14 rfl dX6_does_44 (by first | assumption | exact hU_self _ _ _ | (refine (hU_ne (by omega)).trans ?_; first | assumption | exact hU_self _ _ _ | (refine (hU_ne (by omega)).trans ?_; first | assumption | exact hU_self _ _ _ | (refine (hU_ne (by omega)).trans ?_; first | assumption | exact hU_self _ _ _)))) (by exact rfl) ?_
      refine qV_voV (pc := 47) (c_remembers hy hP (by omega) (by omega) (by omega)) nX1_remembers kX1 lk_X6_68 dX6_does_47 (by first | assumption | exact hU_self _ _ _ | (refine (hU_ne (by omega)).trans ?_; first | assumption | exact hU_self _ _ _ | (refine (hU_ne (by omega)).trans ?_; first | assumption | exact hU_self _ _ _ | (refine (hU_ne (by omega)).trans ?_; first | assumption | exact hU_self _ _ _)))) ⟨le_b rfl, le_b rfl⟩ ⟨le_b rfl, le_b rfl⟩ rfl (le_b rfl) ?_
      rintro h2 sz ⟨q1, f1, rfl⟩
      have c1 := c0.hst f1 q1
      have k1 := k0.trans (Kp.of f1 (by omega))
      obtain ⟨ho, hP, ⟨s1, hS⟩, ht, hg, hy, hi, hv⟩ := id c1
      obtain ⟨hp1, hpb, hpc, hpm⟩ := id hP
      have hs1 := hS.1
      obtain ⟨_, _, -, -, hg1, -⟩ := id hg
      obtain ⟨_, _, -, hy1, -⟩ := id hy
      refine qV_aload_n (pc := 50) 0 dX6_does_50 rfl rfl ?_
      refine qV_get (pc := 51) kX6 3 (le_b rfl) lk_X6_35 rfl dX6_does_51 (by first | assumption | exact hU_self _ _ _ | (refine (hU_ne (by omega)).trans ?_; first | assumption | exact hU_self _ _ _ | (refine (hU_ne (by omega)).trans ?_; first | assumption | exact hU_self _ _ _ | (refine (hU_ne (by omega)).trans ?_; first | assumption | exact hU_self _ _ _)))) (by exact rfl) ?_
      refine qV_aload_n (pc := 54) 0 dX6_does_54 rfl rfl ?_
      refine qV_get (pc := 55) kX6 0 (le_b rfl) lk_X6_14 rfl dX6_does_55 (by first | assumption | exact hU_self _ _ _ | (refine (hU_ne (by omega)).trans ?_; first | assumption | exact hU_self _ _ _ | (refine (hU_ne (by omega)).trans ?_; first | assumption | exact hU_self _ _ _ | (refine (hU_ne (by omega)).trans ?_; first | assumption | exact hU_self _ _ _)))) (by exact rfl) ?_
      refine qV_voV (pc := 58) (c_changesAll hg hP (wP.1.up (by omega)) wS w1 (by omega)) nX4_changesAll kX4 lk_X6_89 dX6_does_58 (by first | assumption | exact hU_self _ _ _ | (refine (hU_ne (by omega)).trans ?_; first | assumption | exact hU_self _ _ _ | (refine (hU_ne (by omega)).trans ?_; first | assumption | exact hU_self _ _ _ | (refine (hU_ne (by omega)).trans ?_; first | assumption | exact hU_self _ _ _)))) ⟨le_b rfl, le_b rfl⟩ ⟨le_b rfl, le_b rfl⟩ rfl (le_b rfl) ?_
      rintro h3 sz ⟨q2, f2, rfl⟩
      have c2 := c1.text f2 q2
      have k2 := k1.trans (Kp.of f2 (by omega))
      obtain ⟨ho, hP, ⟨s2, hS⟩, ht, hg, hy, hi, hv⟩ := id c2
      obtain ⟨hp1, hpb, hpc, hpm⟩ := id hP
      have hs1 := hS.1
      obtain ⟨_, _, -, -, hg1, -⟩ := id hg
      obtain ⟨_, _, -, hy1, -⟩ := id hy
      refine qV_aload_n (pc := 61) 0 dX6_does_61 rfl rfl ?_
      refine qV_get (pc := 62) kX6 3 (le_b rfl) lk_X6_35 rfl dX6_does_62 (by first | assumption | exact hU_self _ _ _ | (refine (hU_ne (by omega)).trans ?_; first | assumption | exact hU_self _ _ _ | (refine (hU_ne (by omega)).trans ?_; first | assumption | exact hU_self _ _ _ | (refine (hU_ne (by omega)).trans ?_; first | assumption | exact hU_self _ _ _)))) (by exact rfl) ?_
      refine qV_voV (pc := 65) (c_Stg_empties X.2.2.1.1 hg) nX4_empties kX4 lk_X6_92 dX6_does_65 (by first | assumption | exact hU_self _ _ _ | (refine (hU_ne (by omega)).trans ?_; first | assumption | exact hU_self _ _ _ | (refine (hU_ne (by omega)).trans ?_; first | assumption | exact hU_self _ _ _ | (refine (hU_ne (by omega)).trans ?_; first | assumption | exact hU_self _ _ _)))) ⟨le_b rfl, le_b rfl⟩ ⟨le_b rfl, le_b rfl⟩ rfl (le_b rfl) ?_
      rintro h4 sz ⟨q3, f3, rfl⟩
      have c3 := c2.stg f3 q3
      have k3 := k2.trans (Kp.of f3 (by omega))
      obtain ⟨ho, hP, ⟨s3, hS⟩, ht, hg, hy, hi, hv⟩ := id c3
      obtain ⟨hp1, hpb, hpc, hpm⟩ := id hP
      have hs1 := hS.1
      obtain ⟨_, _, -, -, hg1, -⟩ := id hg
      obtain ⟨_, _, -, hy1, -⟩ := id hy
      refine qV_aload_n (pc := 68) 0 dX6_does_68 rfl rfl ?_
      refine qV_get (pc := 69) kX6 1 (le_b rfl) lk_X6_21 rfl dX6_does_69 (by first | assumption | exact hU_self _ _ _ | (refine (hU_ne (by omega)).trans ?_; first | assumption | exact hU_self _ _ _ | (refine (hU_ne (by omega)).trans ?_; first | assumption | exact hU_self _ _ _ | (refine (hU_ne (by omega)).trans ?_; first | assumption | exact hU_self _ _ _)))) (by exact rfl) ?_
      refine qV_aload_n (pc := 72) 0 dX6_does_72 rfl rfl ?_
      refine qV_get (pc := 73) kX6 0 (le_b rfl) lk_X6_14 rfl dX6_does_73 (by first | assumption | exact hU_self _ _ _ | (refine (hU_ne (by omega)).trans ?_; first | assumption | exact hU_self _ _ _ | (refine (hU_ne (by omega)).trans ?_; first | assumption | exact hU_self _ _ _ | (refine (hU_ne (by omega)).trans ?_; first | assumption | exact hU_self _ _ _)))) (by exact rfl) ?_
      refine qV_get (pc := 76) kX2 0 (le_b rfl) lk_X6_65 rfl dX6_does_76 (by first | assumption | exact hU_self _ _ _ | (refine (hU_ne (by omega)).trans ?_; first | assumption | exact hU_self _ _ _ | (refine (hU_ne (by omega)).trans ?_; first | assumption | exact hU_self _ _ _ | (refine (hU_ne (by omega)).trans ?_; first | assumption | exact hU_self _ _ _)))) (by exact rfl) ?_
      refine qV_voV (pc := 79) (c_measures hS hpb wE.1.1.1 wE.1.1.2.1 (by omega)) nX5_measures kX5 lk_X6_76 dX6_does_79 (by first | assumption | exact hU_self _ _ _ | (refine (hU_ne (by omega)).trans ?_; first | assumption | exact hU_self _ _ _ | (refine (hU_ne (by omega)).trans ?_; first | assumption | exact hU_self _ _ _ | (refine (hU_ne (by omega)).trans ?_; first | assumption | exact hU_self _ _ _)))) ⟨le_b rfl, le_b rfl⟩ ⟨le_b rfl, le_b rfl⟩ rfl (le_b rfl) ?_
      rintro h5 sz ⟨q4, f4, rfl⟩
      have c4 := c3.sums f4 q4
      have k4 := k3.trans (Kp.of f4 (by omega))
      obtain ⟨ho, hP, ⟨s4, hS⟩, ht, hg, hy, hi, hv⟩ := id c4
      obtain ⟨hp1, hpb, hpc, hpm⟩ := id hP
      have hs1 := hS.1
      obtain ⟨_, _, -, -, hg1, -⟩ := id hg
      obtain ⟨_, _, -, hy1, -⟩ := id hy
      refine qV_aload_n (pc := 82) 0 dX6_does_82 rfl rfl ?_
      refine qV_get (pc := 83) kX6 0 (le_b rfl) lk_X6_14 rfl dX6_does_83 (by first | assumption | exact hU_self _ _ _ | (refine (hU_ne (by omega)).trans ?_; first | assumption | exact hU_self _ _ _ | (refine (hU_ne (by omega)).trans ?_; first | assumption | exact hU_self _ _ _ | (refine (hU_ne (by omega)).trans ?_; first | assumption | exact hU_self _ _ _)))) (by exact rfl) ?_
      refine qV_get (pc := 86) kX2 0 (le_b rfl) lk_X6_65 rfl dX6_does_86 (by first | assumption | exact hU_self _ _ _ | (refine (hU_ne (by omega)).trans ?_; first | assumption | exact hU_self _ _ _ | (refine (hU_ne (by omega)).trans ?_; first | assumption | exact hU_self _ _ _ | (refine (hU_ne (by omega)).trans ?_; first | assumption | exact hU_self _ _ _)))) (by exact rfl) ?_
      refine qV_rdV (pc := 89) (c_size hpb) nX3_size kX3 lk_X6_50 dX6_does_89 hpb.obj ⟨le_b rfl, le_b rfl⟩ ⟨le_b rfl, le_b rfl⟩ rfl (le_b rfl) ?_
      refine qV_iret (pc := 92) dX6_does_92 rfl (le_b rfl) (le_b rfl) ?_
      have e0 : oDoes X = ((X.1.1 : Int) + grw X.2.2.1.1 X.2.2.1.2, (doA X.2.2.1.1 X.2.2.1.2 X.1, X.2.1, (X.2.2.1.1, 0), (pushH X.2.2.2.1.1 X.1, min (X.2.2.2.1.2 + 1) 8), X.2.2.2.2)) := by simp only [oDoes]; rw [if_neg (by omega), if_neg (by omega)]
      refine ⟨_, rfl, ?_, by rw [e0]; exact c4, k4, rfl⟩
      rw [e0, wE.2]
    · refine qV_bipush (pc := 36) dX6_does_36 rfl ?_
      refine qV_iret (pc := 38) dX6_does_38 rfl (le_b rfl) (le_b rfl) ?_
      have e0 : oDoes X = (-3, X) := by simp only [oDoes]; rw [if_neg (by omega), if_pos (by omega)]
      exact ⟨_, rfl, by rw [e0], by rw [e0]; exact hI, Kp.rf, rfl⟩
  · refine qV_bipush (pc := 10) dX6_does_10 rfl ?_
    refine qV_iret (pc := 12) dX6_does_12 rfl (le_b rfl) (le_b rfl) ?_
    have e0 : oDoes X = (-2, X) := if_pos (by omega)
    exact ⟨_, rfl, by rw [e0], by rw [e0]; exact hI, Kp.rf, rfl⟩
set_option maxRecDepth 100000 in
set_option maxHeartbeats 4000000 in
theorem v_drops (hI : CInv h sz v X) (wx : wfX X) : qRt l mX6_drops 0 0 [.ref v] h sz (fun w h' sz' => w = vI (oDrops X).1 ∧ CInv h' sz' v (oDrops X).2 ∧ Kp h h' v ∧ sz' = sz) := by
  have c0 : CG h sz v X.1 X.1.1 X.1.2.1 X.2.1 X.2.2.1 X.2.2.2.1 X.2.2.2.2 := hI
  have k0 : Kp h h v := Kp.rf
  obtain ⟨ho, hP, ⟨s0, hS⟩, ht, hg, hy, hi, hv⟩ := id c0
  obtain ⟨hp1, hpb, hpc, hpm⟩ := id hP
  have hs1 := hS.1
  obtain ⟨_, _, -, -, hg1, -⟩ := id hg
  obtain ⟨_, _, -, hy1, -⟩ := id hy
  obtain ⟨wP, wT, wS, wz, wH, wy, wI⟩ := id wx
  obtain ⟨⟨w1, w2, w3, w4, w5, w6, w7⟩, w8⟩ := id wP
  have wcl := wP.1.c_le
  refine qC.of 1 (by decide) (le_b rfl) ?_
  refine qV_aload_n (pc := 0) 0 dX6_drops_0 rfl rfl ?_
  refine qV_get (pc := 1) kX6 3 (le_b rfl) lk_X6_35 rfl dX6_drops_1 (by first | assumption | exact hU_self _ _ _ | (refine (hU_ne (by omega)).trans ?_; first | assumption | exact hU_self _ _ _ | (refine (hU_ne (by omega)).trans ?_; first | assumption | exact hU_self _ _ _ | (refine (hU_ne (by omega)).trans ?_; first | assumption | exact hU_self _ _ _)))) (by exact rfl) ?_
  refine qV_rdV (pc := 4) (c_Stg_size hg) nX4_size kX4 lk_X6_64 dX6_drops_4 (by first | assumption | exact hU_self _ _ _ | (refine (hU_ne (by omega)).trans ?_; first | assumption | exact hU_self _ _ _ | (refine (hU_ne (by omega)).trans ?_; first | assumption | exact hU_self _ _ _ | (refine (hU_ne (by omega)).trans ?_; first | assumption | exact hU_self _ _ _)))) ⟨le_b rfl, le_b rfl⟩ ⟨le_b rfl, le_b rfl⟩ rfl (le_b rfl) ?_
  refine qV_istore_n (pc := 7) 1 dX6_drops_7 rfl (le_b rfl) (le_b rfl) rfl ?_
  refine qV_aload_n (pc := 8) 0 dX6_drops_8 rfl rfl ?_
  refine qV_get (pc := 9) kX6 3 (le_b rfl) lk_X6_35 rfl dX6_drops_9 (by first | assumption | exact hU_self _ _ _ | (refine (hU_ne (by omega)).trans ?_; first | assumption | exact hU_self _ _ _ | (refine (hU_ne (by omega)).trans ?_; first | assumption | exact hU_self _ _ _ | (refine (hU_ne (by omega)).trans ?_; first | assumption | exact hU_self _ _ _)))) (by exact rfl) ?_
  refine qV_voV (pc := 12) (c_Stg_empties X.2.2.1.1 hg) nX4_empties kX4 lk_X6_92 dX6_drops_12 (by first | assumption | exact hU_self _ _ _ | (refine (hU_ne (by omega)).trans ?_; first | assumption | exact hU_self _ _ _ | (refine (hU_ne (by omega)).trans ?_; first | assumption | exact hU_self _ _ _ | (refine (hU_ne (by omega)).trans ?_; first | assumption | exact hU_self _ _ _)))) ⟨le_b rfl, le_b rfl⟩ ⟨le_b rfl, le_b rfl⟩ rfl (le_b rfl) ?_
  rintro h2 sz ⟨q1, f1, rfl⟩
  have c1 := c0.stg f1 q1
  have k1 := k0.trans (Kp.of f1 (by omega))
  obtain ⟨ho, hP, ⟨s1, hS⟩, ht, hg, hy, hi, hv⟩ := id c1
  obtain ⟨hp1, hpb, hpc, hpm⟩ := id hP
  have hs1 := hS.1
  obtain ⟨_, _, -, -, hg1, -⟩ := id hg
  obtain ⟨_, _, -, hy1, -⟩ := id hy
  refine qV_iload_n (pc := 15) 1 dX6_drops_15 rfl rfl ?_
  refine qV_iret (pc := 16) dX6_drops_16 rfl (le_b rfl) (le_b rfl) ?_
  exact ⟨_, rfl, rfl, c1, k1, rfl⟩
set_option maxRecDepth 100000 in
set_option maxHeartbeats 4000000 in
theorem v_undo (hI : CInv h sz v X) (wx : wfX X) : qRt l mX6_undo 0 0 [.ref v] h sz (fun w h' sz' => w = vI (oUndo X).1 ∧ CInv h' sz' v (oUndo X).2 ∧ Kp h h' v ∧ sz' = sz) := by
  have c0 : CG h sz v X.1 X.1.1 X.1.2.1 X.2.1 X.2.2.1 X.2.2.2.1 X.2.2.2.2 := hI
  have k0 : Kp h h v := Kp.rf
  obtain ⟨ho, hP, ⟨s0, hS⟩, ht, hg, hy, hi, hv⟩ := id c0
  obtain ⟨hp1, hpb, hpc, hpm⟩ := id hP
  have hs1 := hS.1
  obtain ⟨_, _, -, -, hg1, -⟩ := id hg
  obtain ⟨_, _, -, hy1, -⟩ := id hy
  obtain ⟨wP, wT, wS, wz, wH, wy, wI⟩ := id wx
  obtain ⟨⟨w1, w2, w3, w4, w5, w6, w7⟩, w8⟩ := id wP
  have wcl := wP.1.c_le
  refine qC.of 0 (by decide) (le_b rfl) ?_
  refine qV_aload_n (pc := 0) 0 dX6_undo_0 rfl rfl ?_
  refine qV_get (pc := 1) kX6 4 (le_b rfl) lk_X6_42 rfl dX6_undo_1 (by first | assumption | exact hU_self _ _ _ | (refine (hU_ne (by omega)).trans ?_; first | assumption | exact hU_self _ _ _ | (refine (hU_ne (by omega)).trans ?_; first | assumption | exact hU_self _ _ _ | (refine (hU_ne (by omega)).trans ?_; first | assumption | exact hU_self _ _ _)))) (by exact rfl) ?_
  refine qV_rdV (pc := 4) (c_Hst_size hy) nX1_size kX1 lk_X6_93 dX6_undo_4 (by first | assumption | exact hU_self _ _ _ | (refine (hU_ne (by omega)).trans ?_; first | assumption | exact hU_self _ _ _ | (refine (hU_ne (by omega)).trans ?_; first | assumption | exact hU_self _ _ _ | (refine (hU_ne (by omega)).trans ?_; first | assumption | exact hU_self _ _ _)))) ⟨le_b rfl, le_b rfl⟩ ⟨le_b rfl, le_b rfl⟩ rfl (le_b rfl) ?_
  refine qV_ifeq (pc := 7) 20 dX6_undo_7 (by decide) ⟨by omega, by omega⟩ (fun c7 => ?_) (fun c7 => ?_)
  · refine qV_bipush (pc := 20) dX6_undo_20 rfl ?_
    refine qV_iret (pc := 22) dX6_undo_22 rfl (le_b rfl) (le_b rfl) ?_
    have e0 : oUndo X = (-2, X) := if_pos (by omega)
    exact ⟨_, rfl, by rw [e0], by rw [e0]; exact hI, Kp.rf, rfl⟩
  · refine qV_aload_n (pc := 10) 0 dX6_undo_10 rfl rfl ?_
    refine qV_get (pc := 11) kX6 3 (le_b rfl) lk_X6_35 rfl dX6_undo_11 (by first | assumption | exact hU_self _ _ _ | (refine (hU_ne (by omega)).trans ?_; first | assumption | exact hU_self _ _ _ | (refine (hU_ne (by omega)).trans ?_; first | assumption | exact hU_self _ _ _ | (refine (hU_ne (by omega)).trans ?_; first | assumption | exact hU_self _ _ _)))) (by exact rfl) ?_
    refine qV_rdV (pc := 14) (c_Stg_size hg) nX4_size kX4 lk_X6_64 dX6_undo_14 (by first | assumption | exact hU_self _ _ _ | (refine (hU_ne (by omega)).trans ?_; first | assumption | exact hU_self _ _ _ | (refine (hU_ne (by omega)).trans ?_; first | assumption | exact hU_self _ _ _ | (refine (hU_ne (by omega)).trans ?_; first | assumption | exact hU_self _ _ _)))) ⟨le_b rfl, le_b rfl⟩ ⟨le_b rfl, le_b rfl⟩ rfl (le_b rfl) ?_
    refine qV_ifle (pc := 17) 23 dX6_undo_17 (by decide) ⟨by omega, by omega⟩ (fun c17 => ?_) (fun c17 => ?_)
    · have w0 := wH 0 (by omega)
      refine qV_aload_n (pc := 23) 0 dX6_undo_23 rfl rfl ?_
      refine qV_get (pc := 24) kX6 4 (le_b rfl) lk_X6_42 rfl dX6_undo_24 (by first | assumption | exact hU_self _ _ _ | (refine (hU_ne (by omega)).trans ?_; first | assumption | exact hU_self _ _ _ | (refine (hU_ne (by omega)).trans ?_; first | assumption | exact hU_self _ _ _ | (refine (hU_ne (by omega)).trans ?_; first | assumption | exact hU_self _ _ _)))) (by exact rfl) ?_
      refine qV_aload_n (pc := 27) 0 dX6_undo_27 rfl rfl ?_
      refine qV_get (pc := 28) kX6 0 (le_b rfl) lk_X6_14 rfl dX6_undo_28 (by first | assumption | exact hU_self _ _ _ | (refine (hU_ne (by omega)).trans ?_; first | assumption | exact hU_self _ _ _ | (refine (hU_ne (by omega)).trans ?_; first | assumption | exact hU_self _ _ _ | (refine (hU_ne (by omega)).trans ?_; first | assumption | exact hU_self _ _ _)))) (by exact rfl) ?_
      refine qV_voV (pc := 31) (c_restores hy (by omega) hP w0.1.1 (by have := w0.1.c_le; have := w0.1.1; omega) (by omega)) nX1_restores kX1 lk_X6_94 dX6_undo_31 (by first | assumption | exact hU_self _ _ _ | (refine (hU_ne (by omega)).trans ?_; first | assumption | exact hU_self _ _ _ | (refine (hU_ne (by omega)).trans ?_; first | assumption | exact hU_self _ _ _ | (refine (hU_ne (by omega)).trans ?_; first | assumption | exact hU_self _ _ _)))) ⟨le_b rfl, le_b rfl⟩ ⟨le_b rfl, le_b rfl⟩ rfl (le_b rfl) ?_
      rintro h3 sz ⟨⟨h2, q1, f1, f2⟩, -, q2, rfl⟩
      have c1 := c0.text f1 q1
      have k1 := k0.trans (Kp.of f1 (by omega))
      have c2 := c1.hst f2 q2
      have k2 := k1.trans (Kp.of f2 (by omega))
      obtain ⟨ho, hP, ⟨s2, hS⟩, ht, hg, hy, hi, hv⟩ := id c2
      obtain ⟨hp1, hpb, hpc, hpm⟩ := id hP
      have hs1 := hS.1
      obtain ⟨_, _, -, -, hg1, -⟩ := id hg
      obtain ⟨_, _, -, hy1, -⟩ := id hy
      refine qV_aload_n (pc := 34) 0 dX6_undo_34 rfl rfl ?_
      refine qV_get (pc := 35) kX6 1 (le_b rfl) lk_X6_21 rfl dX6_undo_35 (by first | assumption | exact hU_self _ _ _ | (refine (hU_ne (by omega)).trans ?_; first | assumption | exact hU_self _ _ _ | (refine (hU_ne (by omega)).trans ?_; first | assumption | exact hU_self _ _ _ | (refine (hU_ne (by omega)).trans ?_; first | assumption | exact hU_self _ _ _)))) (by exact rfl) ?_
      refine qV_aload_n (pc := 38) 0 dX6_undo_38 rfl rfl ?_
      refine qV_get (pc := 39) kX6 0 (le_b rfl) lk_X6_14 rfl dX6_undo_39 (by first | assumption | exact hU_self _ _ _ | (refine (hU_ne (by omega)).trans ?_; first | assumption | exact hU_self _ _ _ | (refine (hU_ne (by omega)).trans ?_; first | assumption | exact hU_self _ _ _ | (refine (hU_ne (by omega)).trans ?_; first | assumption | exact hU_self _ _ _)))) (by exact rfl) ?_
      refine qV_get (pc := 42) kX2 0 (le_b rfl) lk_X6_65 rfl dX6_undo_42 (by first | assumption | exact hU_self _ _ _ | (refine (hU_ne (by omega)).trans ?_; first | assumption | exact hU_self _ _ _ | (refine (hU_ne (by omega)).trans ?_; first | assumption | exact hU_self _ _ _ | (refine (hU_ne (by omega)).trans ?_; first | assumption | exact hU_self _ _ _)))) (by exact rfl) ?_
      refine qV_voV (pc := 45) (c_measures hS hpb w0.1.1 w0.1.2.1 (by omega)) nX5_measures kX5 lk_X6_76 dX6_undo_45 (by first | assumption | exact hU_self _ _ _ | (refine (hU_ne (by omega)).trans ?_; first | assumption | exact hU_self _ _ _ | (refine (hU_ne (by omega)).trans ?_; first | assumption | exact hU_self _ _ _ | (refine (hU_ne (by omega)).trans ?_; first | assumption | exact hU_self _ _ _)))) ⟨le_b rfl, le_b rfl⟩ ⟨le_b rfl, le_b rfl⟩ rfl (le_b rfl) ?_
      rintro h4 sz ⟨q3, f3, rfl⟩
      have c3 := c2.sums f3 q3
      have k3 := k2.trans (Kp.of f3 (by omega))
      obtain ⟨ho, hP, ⟨s3, hS⟩, ht, hg, hy, hi, hv⟩ := id c3
      obtain ⟨hp1, hpb, hpc, hpm⟩ := id hP
      have hs1 := hS.1
      obtain ⟨_, _, -, -, hg1, -⟩ := id hg
      obtain ⟨_, _, -, hy1, -⟩ := id hy
      refine qV_aload_n (pc := 48) 0 dX6_undo_48 rfl rfl ?_
      refine qV_get (pc := 49) kX6 4 (le_b rfl) lk_X6_42 rfl dX6_undo_49 (by first | assumption | exact hU_self _ _ _ | (refine (hU_ne (by omega)).trans ?_; first | assumption | exact hU_self _ _ _ | (refine (hU_ne (by omega)).trans ?_; first | assumption | exact hU_self _ _ _ | (refine (hU_ne (by omega)).trans ?_; first | assumption | exact hU_self _ _ _)))) (by exact rfl) ?_
      refine qV_rdV (pc := 52) (c_Hst_size hy) nX1_size kX1 lk_X6_93 dX6_undo_52 (by first | assumption | exact hU_self _ _ _ | (refine (hU_ne (by omega)).trans ?_; first | assumption | exact hU_self _ _ _ | (refine (hU_ne (by omega)).trans ?_; first | assumption | exact hU_self _ _ _ | (refine (hU_ne (by omega)).trans ?_; first | assumption | exact hU_self _ _ _)))) ⟨le_b rfl, le_b rfl⟩ ⟨le_b rfl, le_b rfl⟩ rfl (le_b rfl) ?_
      refine qV_iret (pc := 55) dX6_undo_55 rfl (le_b rfl) (le_b rfl) ?_
      have e0 : oUndo X = ((X.2.2.2.1.2 : Int) - 1, (X.2.2.2.1.1 0, X.2.1, X.2.2.1, ((fun i => X.2.2.2.1.1 (i + 1)), X.2.2.2.1.2 - 1), X.2.2.2.2)) := by simp only [oUndo]; rw [if_neg (by omega)]
      refine ⟨_, rfl, ?_, by rw [e0]; exact c3, k3, rfl⟩
      rw [e0]
      congr 1
      show ((X.2.2.2.1.2 - 1 : Nat) : Int) = (X.2.2.2.1.2 : Int) - 1
      omega
    · refine qV_bipush (pc := 20) dX6_undo_20 rfl ?_
      refine qV_iret (pc := 22) dX6_undo_22 rfl (le_b rfl) (le_b rfl) ?_
      have e0 : oUndo X = (-2, X) := if_pos (by omega)
      exact ⟨_, rfl, by rw [e0], by rw [e0]; exact hI, Kp.rf, rfl⟩
set_option maxRecDepth 100000 in
set_option maxHeartbeats 4000000 in
theorem v_marks {a x : Int} (ha : iR a) (hx : iR x) (hI : CInv h sz v X) (wx : wfX X) : qRt l mX6_marks 0 0 [.ref v, vI a, vI x] h sz (fun w h' sz' => w = vI (oMarks X a x).1 ∧ CInv h' sz' v (oMarks X a x).2 ∧ Kp h h' v ∧ sz' = sz) := by
  have c0 : CG h sz v X.1 X.1.1 X.1.2.1 X.2.1 X.2.2.1 X.2.2.2.1 X.2.2.2.2 := hI
  have k0 : Kp h h v := Kp.rf
  obtain ⟨ho, hP, ⟨s0, hS⟩, ht, hg, hy, hi, hv⟩ := id c0
  obtain ⟨hp1, hpb, hpc, hpm⟩ := id hP
  have hs1 := hS.1
  obtain ⟨_, _, -, -, hg1, -⟩ := id hg
  obtain ⟨_, _, -, hy1, -⟩ := id hy
  obtain ⟨wP, wT, wS, wz, wH, wy, wI⟩ := id wx
  obtain ⟨⟨w1, w2, w3, w4, w5, w6, w7⟩, w8⟩ := id wP
  have wcl := wP.1.c_le
  obtain ⟨x1, x2⟩ := hx
  obtain ⟨a1, a2⟩ := ha
  have hmc := mcnt_in X.1.2.2.2.2.1 26
  refine qC.of 1 (by decide) (le_b rfl) ?_
  refine qV_iload_n (pc := 0) 1 dX6_marks_0 rfl rfl ?_
  refine qV_rdS (pc := 1) (v_isName ⟨a1, a2⟩) nX6_isName lk_X6_150 dX6_marks_1 ⟨le_b rfl, le_b rfl⟩ ⟨le_b rfl, le_b rfl⟩ rfl (le_b rfl) ?_
  refine qV_ifeqB (pc := 4) 15 dX6_marks_4 (by decide) (fun c4 => ?_) (fun c4 => ?_)
  · refine qV_iconst (pc := 15) dX6_marks_15 ?_
    refine qV_iret (pc := 16) dX6_marks_16 rfl (le_b rfl) (le_b rfl) ?_
    have e0 : oMarks X a x = (-1, X) := by first | exact if_pos (Or.inl c4) | exact if_pos (Or.inr c12)
    exact ⟨_, rfl, by rw [e0], by rw [e0]; exact hI, Kp.rf, rfl⟩
  · refine qV_aload_n (pc := 7) 0 dX6_marks_7 rfl rfl ?_
    refine qV_iload_n (pc := 8) 2 dX6_marks_8 rfl rfl ?_
    refine qV_rdV (pc := 9) (v_isPlace ⟨x1, x2⟩ hI wx) nX6_isPlace kX6 lk_X6_115 dX6_marks_9 (by first | assumption | exact hU_self _ _ _ | (refine (hU_ne (by omega)).trans ?_; first | assumption | exact hU_self _ _ _ | (refine (hU_ne (by omega)).trans ?_; first | assumption | exact hU_self _ _ _ | (refine (hU_ne (by omega)).trans ?_; first | assumption | exact hU_self _ _ _)))) ⟨le_b rfl, le_b rfl⟩ ⟨le_b rfl, le_b rfl⟩ rfl (le_b rfl) ?_
    refine qV_ifneB (pc := 12) 17 dX6_marks_12 (by decide) (fun c12 => ?_) (fun c12 => ?_)
    · have hnm := c4
      have hpl := c12
      have hmi := w5 (a - 97).toNat (by omega)
      refine qV_aload_n (pc := 17) 0 dX6_marks_17 rfl rfl ?_
      refine qV_get (pc := 18) kX6 0 (le_b rfl) lk_X6_14 rfl dX6_marks_18 (by first | assumption | exact hU_self _ _ _ | (refine (hU_ne (by omega)).trans ?_; first | assumption | exact hU_self _ _ _ | (refine (hU_ne (by omega)).trans ?_; first | assumption | exact hU_self _ _ _ | (refine (hU_ne (by omega)).trans ?_; first | assumption | exact hU_self _ _ _)))) (by exact rfl) ?_
      refine qV_iload_n (pc := 21) 1 dX6_marks_21 rfl rfl ?_
      refine qV_rdV (pc := 22) (c_markPlace (i := (a - 97).toNat) hP (by omega) (by omega)) nX2_markPlace kX2 lk_X6_153 dX6_marks_22 (by first | assumption | exact hU_self _ _ _ | (refine (hU_ne (by omega)).trans ?_; first | assumption | exact hU_self _ _ _ | (refine (hU_ne (by omega)).trans ?_; first | assumption | exact hU_self _ _ _ | (refine (hU_ne (by omega)).trans ?_; first | assumption | exact hU_self _ _ _)))) ⟨le_b rfl, le_b rfl⟩ ⟨le_b rfl, le_b rfl⟩ rfl (le_b rfl) ?_
      refine qV_istore_n (pc := 25) 3 dX6_marks_25 rfl (le_b rfl) (le_b rfl) rfl ?_
      refine qV_iload_n (pc := 26) 3 dX6_marks_26 rfl rfl ?_
      refine qV_bipush (pc := 27) dX6_marks_27 rfl ?_
      refine qV_icmp_ne (pc := 29) 47 dX6_marks_29 (by decide) ⟨by omega, by omega⟩ ⟨by omega, by omega⟩ (fun c29 => ?_) (fun c29 => ?_)
      · refine qV_aload_n (pc := 47) 0 dX6_marks_47 rfl rfl ?_
        refine qV_get (pc := 48) kX6 0 (le_b rfl) lk_X6_14 rfl dX6_marks_48 (by first | assumption | exact hU_self _ _ _ | (refine (hU_ne (by omega)).trans ?_; first | assumption | exact hU_self _ _ _ | (refine (hU_ne (by omega)).trans ?_; first | assumption | exact hU_self _ _ _ | (refine (hU_ne (by omega)).trans ?_; first | assumption | exact hU_self _ _ _)))) (by exact rfl) ?_
        refine qV_iload_n (pc := 51) 1 dX6_marks_51 rfl rfl ?_
        refine qV_iload_n (pc := 52) 2 dX6_marks_52 rfl rfl ?_
        refine qV_voV (pc := 53) (c_putMark (i := (a - 97).toNat) hP (by omega) (by omega)) nX2_putMark kX2 lk_X6_159 dX6_marks_53 (by first | assumption | exact hU_self _ _ _ | (refine (hU_ne (by omega)).trans ?_; first | assumption | exact hU_self _ _ _ | (refine (hU_ne (by omega)).trans ?_; first | assumption | exact hU_self _ _ _ | (refine (hU_ne (by omega)).trans ?_; first | assumption | exact hU_self _ _ _)))) ⟨le_b rfl, le_b rfl⟩ ⟨le_b rfl, le_b rfl⟩ rfl (le_b rfl) ?_
        rintro h2 sz ⟨q1, f1, rfl⟩
        have c1 := c0.text f1 q1
        have k1 := k0.trans (Kp.of f1 (by omega))
        obtain ⟨ho, hP, ⟨s1, hS⟩, ht, hg, hy, hi, hv⟩ := id c1
        obtain ⟨hp1, hpb, hpc, hpm⟩ := id hP
        have hs1 := hS.1
        obtain ⟨_, _, -, -, hg1, -⟩ := id hg
        obtain ⟨_, _, -, hy1, -⟩ := id hy
        refine qV_iload_n (pc := 56) 3 dX6_marks_56 rfl rfl ?_
        refine qV_iret (pc := 57) dX6_marks_57 rfl (le_b rfl) (le_b rfl) ?_
        have e0 : oMarks X a x = (X.1.2.2.2.2.1 (a - 97).toNat, setMk X (a - 97).toNat x) := by simp only [oMarks]; rw [if_neg (by omega), if_neg (by omega)]
        exact ⟨_, rfl, by rw [e0], by rw [e0]; exact c1, k1, rfl⟩
      · refine qV_aload_n (pc := 32) 0 dX6_marks_32 rfl rfl ?_
        refine qV_get (pc := 33) kX6 0 (le_b rfl) lk_X6_14 rfl dX6_marks_33 (by first | assumption | exact hU_self _ _ _ | (refine (hU_ne (by omega)).trans ?_; first | assumption | exact hU_self _ _ _ | (refine (hU_ne (by omega)).trans ?_; first | assumption | exact hU_self _ _ _ | (refine (hU_ne (by omega)).trans ?_; first | assumption | exact hU_self _ _ _)))) (by exact rfl) ?_
        refine qV_rdV (pc := 36) (c_marksSet hP (fun j hj => by have := w5 j hj; omega)) nX2_marksSet kX2 lk_X6_156 dX6_marks_36 (by first | assumption | exact hU_self _ _ _ | (refine (hU_ne (by omega)).trans ?_; first | assumption | exact hU_self _ _ _ | (refine (hU_ne (by omega)).trans ?_; first | assumption | exact hU_self _ _ _ | (refine (hU_ne (by omega)).trans ?_; first | assumption | exact hU_self _ _ _)))) ⟨le_b rfl, le_b rfl⟩ ⟨le_b rfl, le_b rfl⟩ rfl (le_b rfl) ?_
        refine qV_bipush (pc := 39) dX6_marks_39 rfl ?_
        refine qV_icmp_lt (pc := 41) 47 dX6_marks_41 (by decide) ⟨by omega, by omega⟩ ⟨by omega, by omega⟩ (fun c41 => ?_) (fun c41 => ?_)
        · refine qV_aload_n (pc := 47) 0 dX6_marks_47 rfl rfl ?_
          refine qV_get (pc := 48) kX6 0 (le_b rfl) lk_X6_14 rfl dX6_marks_48 (by first | assumption | exact hU_self _ _ _ | (refine (hU_ne (by omega)).trans ?_; first | assumption | exact hU_self _ _ _ | (refine (hU_ne (by omega)).trans ?_; first | assumption | exact hU_self _ _ _ | (refine (hU_ne (by omega)).trans ?_; first | assumption | exact hU_self _ _ _)))) (by exact rfl) ?_
          refine qV_iload_n (pc := 51) 1 dX6_marks_51 rfl rfl ?_
          refine qV_iload_n (pc := 52) 2 dX6_marks_52 rfl rfl ?_
          refine qV_voV (pc := 53) (c_putMark (i := (a - 97).toNat) hP (by omega) (by omega)) nX2_putMark kX2 lk_X6_159 dX6_marks_53 (by first | assumption | exact hU_self _ _ _ | (refine (hU_ne (by omega)).trans ?_; first | assumption | exact hU_self _ _ _ | (refine (hU_ne (by omega)).trans ?_; first | assumption | exact hU_self _ _ _ | (refine (hU_ne (by omega)).trans ?_; first | assumption | exact hU_self _ _ _)))) ⟨le_b rfl, le_b rfl⟩ ⟨le_b rfl, le_b rfl⟩ rfl (le_b rfl) ?_
          rintro h2 sz ⟨q1, f1, rfl⟩
          have c1 := c0.text f1 q1
          have k1 := k0.trans (Kp.of f1 (by omega))
          obtain ⟨ho, hP, ⟨s1, hS⟩, ht, hg, hy, hi, hv⟩ := id c1
          obtain ⟨hp1, hpb, hpc, hpm⟩ := id hP
          have hs1 := hS.1
          obtain ⟨_, _, -, -, hg1, -⟩ := id hg
          obtain ⟨_, _, -, hy1, -⟩ := id hy
          refine qV_iload_n (pc := 56) 3 dX6_marks_56 rfl rfl ?_
          refine qV_iret (pc := 57) dX6_marks_57 rfl (le_b rfl) (le_b rfl) ?_
          have e0 : oMarks X a x = (X.1.2.2.2.2.1 (a - 97).toNat, setMk X (a - 97).toNat x) := by simp only [oMarks]; rw [if_neg (by omega), if_neg (by omega)]
          exact ⟨_, rfl, by rw [e0], by rw [e0]; exact c1, k1, rfl⟩
        · refine qV_bipush (pc := 44) dX6_marks_44 rfl ?_
          refine qV_iret (pc := 46) dX6_marks_46 rfl (le_b rfl) (le_b rfl) ?_
          have e0 : oMarks X a x = (-3, X) := by simp only [oMarks]; rw [if_neg (by omega), if_pos ⟨c29, by omega⟩]
          exact ⟨_, rfl, by rw [e0], by rw [e0]; exact hI, Kp.rf, rfl⟩
    · refine qV_iconst (pc := 15) dX6_marks_15 ?_
      refine qV_iret (pc := 16) dX6_marks_16 rfl (le_b rfl) (le_b rfl) ?_
      have e0 : oMarks X a x = (-1, X) := by first | exact if_pos (Or.inl c4) | exact if_pos (Or.inr c12)
      exact ⟨_, rfl, by rw [e0], by rw [e0]; exact hI, Kp.rf, rfl⟩
set_option maxRecDepth 100000 in
set_option maxHeartbeats 4000000 in
theorem v_lifts {a : Int} (ha : iR a) (hI : CInv h sz v X) (wx : wfX X) : qRt l mX6_lifts 0 0 [.ref v, vI a] h sz (fun w h' sz' => w = vI (oLifts X a).1 ∧ CInv h' sz' v (oLifts X a).2 ∧ Kp h h' v ∧ sz' = sz) := by
  have c0 : CG h sz v X.1 X.1.1 X.1.2.1 X.2.1 X.2.2.1 X.2.2.2.1 X.2.2.2.2 := hI
  have k0 : Kp h h v := Kp.rf
  obtain ⟨ho, hP, ⟨s0, hS⟩, ht, hg, hy, hi, hv⟩ := id c0
  obtain ⟨hp1, hpb, hpc, hpm⟩ := id hP
  have hs1 := hS.1
  obtain ⟨_, _, -, -, hg1, -⟩ := id hg
  obtain ⟨_, _, -, hy1, -⟩ := id hy
  obtain ⟨wP, wT, wS, wz, wH, wy, wI⟩ := id wx
  obtain ⟨⟨w1, w2, w3, w4, w5, w6, w7⟩, w8⟩ := id wP
  have wcl := wP.1.c_le
  obtain ⟨a1, a2⟩ := ha
  refine qC.of 1 (by decide) (le_b rfl) ?_
  refine qV_iload_n (pc := 0) 1 dX6_lifts_0 rfl rfl ?_
  refine qV_rdS (pc := 1) (v_isName ⟨a1, a2⟩) nX6_isName lk_X6_150 dX6_lifts_1 ⟨le_b rfl, le_b rfl⟩ ⟨le_b rfl, le_b rfl⟩ rfl (le_b rfl) ?_
  refine qV_ifneB (pc := 4) 9 dX6_lifts_4 (by decide) (fun c4 => ?_) (fun c4 => ?_)
  · have hnm := c4
    have hmi := w5 (a - 97).toNat (by omega)
    refine qV_aload_n (pc := 9) 0 dX6_lifts_9 rfl rfl ?_
    refine qV_get (pc := 10) kX6 0 (le_b rfl) lk_X6_14 rfl dX6_lifts_10 (by first | assumption | exact hU_self _ _ _ | (refine (hU_ne (by omega)).trans ?_; first | assumption | exact hU_self _ _ _ | (refine (hU_ne (by omega)).trans ?_; first | assumption | exact hU_self _ _ _ | (refine (hU_ne (by omega)).trans ?_; first | assumption | exact hU_self _ _ _)))) (by exact rfl) ?_
    refine qV_iload_n (pc := 13) 1 dX6_lifts_13 rfl rfl ?_
    refine qV_rdV (pc := 14) (c_markPlace (i := (a - 97).toNat) hP (by omega) (by omega)) nX2_markPlace kX2 lk_X6_153 dX6_lifts_14 (by first | assumption | exact hU_self _ _ _ | (refine (hU_ne (by omega)).trans ?_; first | assumption | exact hU_self _ _ _ | (refine (hU_ne (by omega)).trans ?_; first | assumption | exact hU_self _ _ _ | (refine (hU_ne (by omega)).trans ?_; first | assumption | exact hU_self _ _ _)))) ⟨le_b rfl, le_b rfl⟩ ⟨le_b rfl, le_b rfl⟩ rfl (le_b rfl) ?_
    refine qV_istore_n (pc := 17) 2 dX6_lifts_17 rfl (le_b rfl) (le_b rfl) rfl ?_
    refine qV_iload_n (pc := 18) 2 dX6_lifts_18 rfl rfl ?_
    refine qV_bipush (pc := 19) dX6_lifts_19 rfl ?_
    refine qV_icmp_ne (pc := 21) 27 dX6_lifts_21 (by decide) ⟨by omega, by omega⟩ ⟨by omega, by omega⟩ (fun c21 => ?_) (fun c21 => ?_)
    · refine qV_aload_n (pc := 27) 0 dX6_lifts_27 rfl rfl ?_
      refine qV_get (pc := 28) kX6 0 (le_b rfl) lk_X6_14 rfl dX6_lifts_28 (by first | assumption | exact hU_self _ _ _ | (refine (hU_ne (by omega)).trans ?_; first | assumption | exact hU_self _ _ _ | (refine (hU_ne (by omega)).trans ?_; first | assumption | exact hU_self _ _ _ | (refine (hU_ne (by omega)).trans ?_; first | assumption | exact hU_self _ _ _)))) (by exact rfl) ?_
      refine qV_iload_n (pc := 31) 1 dX6_lifts_31 rfl rfl ?_
      refine qV_bipush (pc := 32) dX6_lifts_32 rfl ?_
      refine qV_voV (pc := 34) (c_putMark (i := (a - 97).toNat) hP (by omega) (by omega)) nX2_putMark kX2 lk_X6_159 dX6_lifts_34 (by first | assumption | exact hU_self _ _ _ | (refine (hU_ne (by omega)).trans ?_; first | assumption | exact hU_self _ _ _ | (refine (hU_ne (by omega)).trans ?_; first | assumption | exact hU_self _ _ _ | (refine (hU_ne (by omega)).trans ?_; first | assumption | exact hU_self _ _ _)))) ⟨le_b rfl, le_b rfl⟩ ⟨le_b rfl, le_b rfl⟩ rfl (le_b rfl) ?_
      rintro h2 sz ⟨q1, f1, rfl⟩
      have c1 := c0.text f1 q1
      have k1 := k0.trans (Kp.of f1 (by omega))
      obtain ⟨ho, hP, ⟨s1, hS⟩, ht, hg, hy, hi, hv⟩ := id c1
      obtain ⟨hp1, hpb, hpc, hpm⟩ := id hP
      have hs1 := hS.1
      obtain ⟨_, _, -, -, hg1, -⟩ := id hg
      obtain ⟨_, _, -, hy1, -⟩ := id hy
      refine qV_iload_n (pc := 37) 2 dX6_lifts_37 rfl rfl ?_
      refine qV_iret (pc := 38) dX6_lifts_38 rfl (le_b rfl) (le_b rfl) ?_
      have e0 : oLifts X a = (X.1.2.2.2.2.1 (a - 97).toNat, setMk X (a - 97).toNat (-9)) := by simp only [oLifts]; rw [if_neg (fun z => z c4), if_neg c21]
      exact ⟨_, rfl, by rw [e0], by rw [e0]; exact c1, k1, rfl⟩
    · refine qV_bipush (pc := 24) dX6_lifts_24 rfl ?_
      refine qV_iret (pc := 26) dX6_lifts_26 rfl (le_b rfl) (le_b rfl) ?_
      have e0 : oLifts X a = (-2, X) := by simp only [oLifts]; rw [if_neg (fun z => z c4), if_pos c21]
      exact ⟨_, rfl, by rw [e0], by rw [e0]; exact hI, Kp.rf, rfl⟩
  · refine qV_iconst (pc := 7) dX6_lifts_7 ?_
    refine qV_iret (pc := 8) dX6_lifts_8 rfl (le_b rfl) (le_b rfl) ?_
    have e0 : oLifts X a = (-1, X) := if_pos c4
    exact ⟨_, rfl, by rw [e0], by rw [e0]; exact hI, Kp.rf, rfl⟩
set_option maxRecDepth 100000 in
set_option maxHeartbeats 4000000 in
theorem v_seeks {x : Int} (hx : iR x) (hI : CInv h sz v X) (wx : wfX X) : qRt l mX6_seeks 0 0 [.ref v, vI x] h sz (fun w h' sz' => w = vI (oSeeks X x).1 ∧ CInv h' sz' v (oSeeks X x).2 ∧ Kp h h' v ∧ sz' = sz) := by
  have c0 : CG h sz v X.1 X.1.1 X.1.2.1 X.2.1 X.2.2.1 X.2.2.2.1 X.2.2.2.2 := hI
  have k0 : Kp h h v := Kp.rf
  obtain ⟨ho, hP, ⟨s0, hS⟩, ht, hg, hy, hi, hv⟩ := id c0
  obtain ⟨hp1, hpb, hpc, hpm⟩ := id hP
  have hs1 := hS.1
  obtain ⟨_, _, -, -, hg1, -⟩ := id hg
  obtain ⟨_, _, -, hy1, -⟩ := id hy
  obtain ⟨wP, wT, wS, wz, wH, wy, wI⟩ := id wx
  obtain ⟨⟨w1, w2, w3, w4, w5, w6, w7⟩, w8⟩ := id wP
  have wcl := wP.1.c_le
  obtain ⟨x1, x2⟩ := hx
  refine qC.of 1 (by decide) (le_b rfl) ?_
  refine qV_aload_n (pc := 0) 0 dX6_seeks_0 rfl rfl ?_
  refine qV_iload_n (pc := 1) 1 dX6_seeks_1 rfl rfl ?_
  refine qV_rdV (pc := 2) (v_isPlace ⟨x1, x2⟩ hI wx) nX6_isPlace kX6 lk_X6_115 dX6_seeks_2 (by first | assumption | exact hU_self _ _ _ | (refine (hU_ne (by omega)).trans ?_; first | assumption | exact hU_self _ _ _ | (refine (hU_ne (by omega)).trans ?_; first | assumption | exact hU_self _ _ _ | (refine (hU_ne (by omega)).trans ?_; first | assumption | exact hU_self _ _ _)))) ⟨le_b rfl, le_b rfl⟩ ⟨le_b rfl, le_b rfl⟩ rfl (le_b rfl) ?_
  refine qV_ifneB (pc := 5) 10 dX6_seeks_5 (by decide) (fun c5 => ?_) (fun c5 => ?_)
  · refine qV_aload_n (pc := 10) 0 dX6_seeks_10 rfl rfl ?_
    refine qV_get (pc := 11) kX6 0 (le_b rfl) lk_X6_14 rfl dX6_seeks_11 (by first | assumption | exact hU_self _ _ _ | (refine (hU_ne (by omega)).trans ?_; first | assumption | exact hU_self _ _ _ | (refine (hU_ne (by omega)).trans ?_; first | assumption | exact hU_self _ _ _ | (refine (hU_ne (by omega)).trans ?_; first | assumption | exact hU_self _ _ _)))) (by exact rfl) ?_
    refine qV_get (pc := 14) kX2 3 (le_b rfl) lk_X6_166 rfl dX6_seeks_14 (by first | assumption | exact hU_self _ _ _ | (refine (hU_ne (by omega)).trans ?_; first | assumption | exact hU_self _ _ _ | (refine (hU_ne (by omega)).trans ?_; first | assumption | exact hU_self _ _ _ | (refine (hU_ne (by omega)).trans ?_; first | assumption | exact hU_self _ _ _)))) (by exact rfl) ?_
    refine qV_istore_n (pc := 17) 2 dX6_seeks_17 rfl (le_b rfl) (le_b rfl) rfl ?_
    refine qV_aload_n (pc := 18) 0 dX6_seeks_18 rfl rfl ?_
    refine qV_get (pc := 19) kX6 0 (le_b rfl) lk_X6_14 rfl dX6_seeks_19 (by first | assumption | exact hU_self _ _ _ | (refine (hU_ne (by omega)).trans ?_; first | assumption | exact hU_self _ _ _ | (refine (hU_ne (by omega)).trans ?_; first | assumption | exact hU_self _ _ _ | (refine (hU_ne (by omega)).trans ?_; first | assumption | exact hU_self _ _ _)))) (by exact rfl) ?_
    refine qV_iload_n (pc := 22) 1 dX6_seeks_22 rfl rfl ?_
    refine qV_put (pc := 23) kX2 3 (le_b rfl) lk_X6_166 rfl rfl rfl rfl dX6_seeks_23 (by first | assumption | exact hU_self _ _ _ | (refine (hU_ne (by omega)).trans ?_; first | assumption | exact hU_self _ _ _ | (refine (hU_ne (by omega)).trans ?_; first | assumption | exact hU_self _ _ _ | (refine (hU_ne (by omega)).trans ?_; first | assumption | exact hU_self _ _ _)))) (by exact le_b rfl) ?_
    refine qV_iload_n (pc := 26) 2 dX6_seeks_26 rfl rfl ?_
    refine qV_iret (pc := 27) dX6_seeks_27 rfl (le_b rfl) (le_b rfl) ?_
    have e0 : oSeeks X x = (X.1.2.2.2.2.2, setRd X x) := by simp only [oSeeks]; rw [if_neg (fun z => z c5)]
    generalize hh2 : hU h (v + 1) _ = h2
    have f0 : Fr h h2 (v + 1) (v + 1 + 1) := by rw [← hh2]; exact Fr.hU (by omega) (by omega)
    have f1 : Fr h h2 (v + 1) (v + 1 + 7) := f0.wide (by omega) (by omega)
    have q1 : Page h2 (v + 1) 216 (setRd X x).1 := ⟨by rw [← hh2]; exact hU_self _ _ _, hpb.fr f0 (by omega), hpc.fr f0 (by omega), hpm.fr f0 (by omega)⟩
    have c1 := c0.text f1 q1
    have k1 := k0.trans (Kp.of f1 (by omega))
    exact ⟨_, rfl, by rw [e0], by rw [e0]; exact c1, k1, rfl⟩
  · refine qV_iconst (pc := 8) dX6_seeks_8 ?_
    refine qV_iret (pc := 9) dX6_seeks_9 rfl (le_b rfl) (le_b rfl) ?_
    have e0 : oSeeks X x = (-1, X) := if_pos c5
    exact ⟨_, rfl, by rw [e0], by rw [e0]; exact hI, Kp.rf, rfl⟩
set_option maxRecDepth 100000 in
set_option maxHeartbeats 4000000 in
theorem v_reads (hI : CInv h sz v X) (wx : wfX X) : qRt l mX6_reads 0 0 [.ref v] h sz (fun w h' sz' => w = vI (oReads X).1 ∧ CInv h' sz' v (oReads X).2 ∧ Kp h h' v ∧ sz' = sz) := by
  have c0 : CG h sz v X.1 X.1.1 X.1.2.1 X.2.1 X.2.2.1 X.2.2.2.1 X.2.2.2.2 := hI
  have k0 : Kp h h v := Kp.rf
  obtain ⟨ho, hP, ⟨s0, hS⟩, ht, hg, hy, hi, hv⟩ := id c0
  obtain ⟨hp1, hpb, hpc, hpm⟩ := id hP
  have hs1 := hS.1
  obtain ⟨_, _, -, -, hg1, -⟩ := id hg
  obtain ⟨_, _, -, hy1, -⟩ := id hy
  obtain ⟨wP, wT, wS, wz, wH, wy, wI⟩ := id wx
  obtain ⟨⟨w1, w2, w3, w4, w5, w6, w7⟩, w8⟩ := id wP
  have wcl := wP.1.c_le
  refine qC.of 0 (by decide) (le_b rfl) ?_
  refine qV_aload_n (pc := 0) 0 dX6_reads_0 rfl rfl ?_
  refine qV_get (pc := 1) kX6 0 (le_b rfl) lk_X6_14 rfl dX6_reads_1 (by first | assumption | exact hU_self _ _ _ | (refine (hU_ne (by omega)).trans ?_; first | assumption | exact hU_self _ _ _ | (refine (hU_ne (by omega)).trans ?_; first | assumption | exact hU_self _ _ _ | (refine (hU_ne (by omega)).trans ?_; first | assumption | exact hU_self _ _ _)))) (by exact rfl) ?_
  refine qV_get (pc := 4) kX2 3 (le_b rfl) lk_X6_166 rfl dX6_reads_4 (by first | assumption | exact hU_self _ _ _ | (refine (hU_ne (by omega)).trans ?_; first | assumption | exact hU_self _ _ _ | (refine (hU_ne (by omega)).trans ?_; first | assumption | exact hU_self _ _ _ | (refine (hU_ne (by omega)).trans ?_; first | assumption | exact hU_self _ _ _)))) (by exact rfl) ?_
  refine qV_aload_n (pc := 7) 0 dX6_reads_7 rfl rfl ?_
  refine qV_get (pc := 8) kX6 0 (le_b rfl) lk_X6_14 rfl dX6_reads_8 (by first | assumption | exact hU_self _ _ _ | (refine (hU_ne (by omega)).trans ?_; first | assumption | exact hU_self _ _ _ | (refine (hU_ne (by omega)).trans ?_; first | assumption | exact hU_self _ _ _ | (refine (hU_ne (by omega)).trans ?_; first | assumption | exact hU_self _ _ _)))) (by exact rfl) ?_
  refine qV_get (pc := 11) kX2 0 (le_b rfl) lk_X6_65 rfl dX6_reads_11 (by first | assumption | exact hU_self _ _ _ | (refine (hU_ne (by omega)).trans ?_; first | assumption | exact hU_self _ _ _ | (refine (hU_ne (by omega)).trans ?_; first | assumption | exact hU_self _ _ _ | (refine (hU_ne (by omega)).trans ?_; first | assumption | exact hU_self _ _ _)))) (by exact rfl) ?_
  refine qV_rdV (pc := 14) (c_size hpb) nX3_size kX3 lk_X6_50 dX6_reads_14 hpb.obj ⟨le_b rfl, le_b rfl⟩ ⟨le_b rfl, le_b rfl⟩ rfl (le_b rfl) ?_
  refine qV_icmp_lt (pc := 17) 23 dX6_reads_17 (by decide) ⟨by omega, by omega⟩ ⟨by omega, by omega⟩ (fun c17 => ?_) (fun c17 => ?_)
  · refine qV_aload_n (pc := 23) 0 dX6_reads_23 rfl rfl ?_
    refine qV_get (pc := 24) kX6 0 (le_b rfl) lk_X6_14 rfl dX6_reads_24 (by first | assumption | exact hU_self _ _ _ | (refine (hU_ne (by omega)).trans ?_; first | assumption | exact hU_self _ _ _ | (refine (hU_ne (by omega)).trans ?_; first | assumption | exact hU_self _ _ _ | (refine (hU_ne (by omega)).trans ?_; first | assumption | exact hU_self _ _ _)))) (by exact rfl) ?_
    refine qV_rtV (pc := 27) (c_readsLetter (i := X.1.2.2.2.2.2.toNat) hP w2 (by omega) (by omega)) nX2_readsLetter kX2 lk_X6_170 dX6_reads_27 (by first | assumption | exact hU_self _ _ _ | (refine (hU_ne (by omega)).trans ?_; first | assumption | exact hU_self _ _ _ | (refine (hU_ne (by omega)).trans ?_; first | assumption | exact hU_self _ _ _ | (refine (hU_ne (by omega)).trans ?_; first | assumption | exact hU_self _ _ _)))) ⟨le_b rfl, le_b rfl⟩ ⟨le_b rfl, le_b rfl⟩ rfl (le_b rfl) ?_
    rintro w h2 sz ⟨rfl, q1, f1, rfl⟩
    have c1 := c0.text f1 q1
    have k1 := k0.trans (Kp.of f1 (by omega))
    obtain ⟨ho, hP, ⟨s1, hS⟩, ht, hg, hy, hi, hv⟩ := id c1
    obtain ⟨hp1, hpb, hpc, hpm⟩ := id hP
    have hs1 := hS.1
    obtain ⟨_, _, -, -, hg1, -⟩ := id hg
    obtain ⟨_, _, -, hy1, -⟩ := id hy
    refine qV_iret (pc := 30) dX6_reads_30 rfl (le_b rfl) (le_b rfl) ?_
    have e0 : oReads X = (X.1.2.1 X.1.2.2.2.2.2.toNat, setRd X ((skp X.1.2.1 (X.1.1 - (X.1.2.2.2.2.2.toNat + 1)) (X.1.2.2.2.2.2.toNat + 1) : Nat) : Int)) := by simp only [oReads]; rw [if_neg (by omega)]
    exact ⟨_, rfl, by rw [e0], by rw [e0]; exact c1, k1, rfl⟩
  · refine qV_bipush (pc := 20) dX6_reads_20 rfl ?_
    refine qV_iret (pc := 22) dX6_reads_22 rfl (le_b rfl) (le_b rfl) ?_
    have e0 : oReads X = (-9, X) := if_pos (by omega)
    exact ⟨_, rfl, by rw [e0], by rw [e0]; exact hI, Kp.rf, rfl⟩
end VIEW2
