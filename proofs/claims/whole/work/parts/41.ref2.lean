/-! ===== the reference: what is only read ===== -/
section REF2
variable {l : Launch} {h : qH} {sz r : Nat} {s : Nat → Int} {kn ty st : Int} {X : XS}
set_option maxRecDepth 100000 in
set_option maxHeartbeats 4000000 in
theorem r_at {x : Int} (hx : iR x) (ho : h r = some (rob r kn ty st)) (hs : h (r + 1) = some (iA 0 541 s)) (hP : SP s X.1) (wx : wfX X) : qRd l mX7_at [.ref r, vI x] h sz (vI (oAt X x)) := by
  obtain ⟨p0, p1, p2, pT, pC, pM⟩ := id hP
  have hw : wf 216 X.1 := wx.1.1.up (by have := wx.1.1.1; omega)
  obtain ⟨⟨⟨w1, w2, w3, w4, w5, w6, w7⟩, w8⟩, -⟩ := id wx
  have wcl := hw.c_le
  have hnl := nl_le X.1.2.1 X.1.1
  obtain ⟨x1, x2⟩ := hx
  refine qC.of 0 (by decide) (le_b rfl) ?_
  refine qV_iload_n (pc := 0) 1 dX7_at_0 rfl rfl ?_
  refine qV_iconst (pc := 1) dX7_at_1 ?_
  refine qV_aload_n (pc := 2) 0 dX7_at_2 rfl rfl ?_
  refine qV_get (pc := 3) kX7 0 (le_b rfl) lk_X7_7 rfl dX7_at_3 (by first | assumption | exact hU_self _ _ _ | (refine (hU_ne (by omega)).trans ?_; first | assumption | exact hU_self _ _ _ | (refine (hU_ne (by omega)).trans ?_; first | assumption | exact hU_self _ _ _ | (refine (hU_ne (by omega)).trans ?_; first | assumption | exact hU_self _ _ _)))) (by exact rfl) ?_
  refine qV_iconst (pc := 6) dX7_at_6 ?_
  refine qV_ialdN (pc := 7) (0) dX7_at_7 (by first | assumption | exact hU_self _ _ _ | (refine (hU_ne (by omega)).trans ?_; first | assumption | exact hU_self _ _ _ | (refine (hU_ne (by omega)).trans ?_; first | assumption | exact hU_self _ _ _ | (refine (hU_ne (by omega)).trans ?_; first | assumption | exact hU_self _ _ _)))) (by omega) (by omega) p0 ?_
  refine qV_iconst (pc := 8) dX7_at_8 ?_
  refine qV_isub (pc := 9) dX7_at_9 ?_
  refine qV_rdS (pc := 10) (m_in ⟨x1, x2⟩ ⟨by omega, by omega⟩ ⟨by omega, by omega⟩) nX7_in lk_X7_38 dX7_at_10 ⟨le_b rfl, le_b rfl⟩ ⟨le_b rfl, le_b rfl⟩ rfl (le_b rfl) ?_
  refine qV_ifeqB (pc := 13) 24 dX7_at_13 (by decide) (fun c13 => ?_) (fun c13 => ?_)
  · have e0 : oAt X x = -1 := by simp only [oAt]; rw [if_neg (by omega)]
    refine qV_iconst (pc := 24) dX7_at_24 ?_
    refine qV_iret (pc := 25) dX7_at_25 rfl (le_b rfl) (le_b rfl) ?_
    exact ⟨by rw [e0], rfl, rfl⟩
  · have e0 : oAt X x = X.1.2.1 x.toNat := by simp only [oAt]; rw [if_pos (by omega)]
    refine qV_aload_n (pc := 16) 0 dX7_at_16 rfl rfl ?_
    refine qV_iload_n (pc := 17) 1 dX7_at_17 rfl rfl ?_
    refine qV_rdV (pc := 18) (m_byteAt (j := x.toNat) ho hs hP hw (by omega) (by omega)) nX7_byteAt kX7 lk_X7_89 dX7_at_18 (by first | assumption | exact hU_self _ _ _ | (refine (hU_ne (by omega)).trans ?_; first | assumption | exact hU_self _ _ _ | (refine (hU_ne (by omega)).trans ?_; first | assumption | exact hU_self _ _ _ | (refine (hU_ne (by omega)).trans ?_; first | assumption | exact hU_self _ _ _)))) ⟨le_b rfl, le_b rfl⟩ ⟨le_b rfl, le_b rfl⟩ rfl (le_b rfl) ?_
    refine qV_goto (pc := 21) 25 dX7_at_21 (by decide) ?_
    refine qV_iret (pc := 25) dX7_at_25 rfl (le_b rfl) (le_b rfl) ?_
    exact ⟨by rw [e0], rfl, rfl⟩
set_option maxRecDepth 100000 in
set_option maxHeartbeats 4000000 in
theorem r_tells {f a t : Int} (hf : iR f) (ha : iR a) (hx : iR t) (ho : h r = some (rob r kn ty st)) (hs : h (r + 1) = some (iA 0 541 s)) (hP : SP s X.1) (wx : wfX X) : qRd l mX7_tells [.ref r, vI f, vI a, vI t] h sz (vI (oTells X f a t)) := by
  obtain ⟨p0, p1, p2, pT, pC, pM⟩ := id hP
  have hw : wf 216 X.1 := wx.1.1.up (by have := wx.1.1.1; omega)
  obtain ⟨⟨⟨w1, w2, w3, w4, w5, w6, w7⟩, w8⟩, -⟩ := id wx
  have wcl := hw.c_le
  have hnl := nl_le X.1.2.1 X.1.1
  obtain ⟨x1, x2⟩ := hx
  obtain ⟨f1, f2⟩ := hf
  obtain ⟨a1, a2⟩ := ha
  have hm := measM_in X.1.2.1 f.toNat X.1.1
  have hm0 : measM X.1.2.1 f.toNat X.1.1 - measM X.1.2.1 f.toNat 0 = measM X.1.2.1 f.toNat X.1.1 := by simp [measM]
  have hfar := far_in X.1.2.1 f.toNat 0 a X.1.1 0
  refine qC.of 1 (by decide) (le_b rfl) ?_
  refine qV_iload_n (pc := 0) 1 dX7_tells_0 rfl rfl ?_
  refine qV_iconst (pc := 1) dX7_tells_1 ?_
  refine qV_iconst (pc := 2) dX7_tells_2 ?_
  refine qV_rdS (pc := 3) (m_in ⟨f1, f2⟩ ⟨by decide, by decide⟩ ⟨by decide, by decide⟩) nX7_in lk_X7_38 dX7_tells_3 ⟨le_b rfl, le_b rfl⟩ ⟨le_b rfl, le_b rfl⟩ rfl (le_b rfl) ?_
  refine qV_ifeqB (pc := 6) 38 dX7_tells_6 (by decide) (fun c6 => ?_) (fun c6 => ?_)
  · have e0 : oTells X f a t = -1 := if_pos (by omega)
    refine qV_iconst (pc := 38) dX7_tells_38 ?_
    refine qV_iret (pc := 39) dX7_tells_39 rfl (le_b rfl) (le_b rfl) ?_
    exact ⟨by rw [e0], rfl, rfl⟩
  · refine qV_iload_n (pc := 9) 3 dX7_tells_9 rfl rfl ?_
    refine qV_iconst (pc := 10) dX7_tells_10 ?_
    refine qV_iconst (pc := 11) dX7_tells_11 ?_
    refine qV_rdS (pc := 12) (m_in ⟨x1, x2⟩ ⟨by decide, by decide⟩ ⟨by decide, by decide⟩) nX7_in lk_X7_38 dX7_tells_12 ⟨le_b rfl, le_b rfl⟩ ⟨le_b rfl, le_b rfl⟩ rfl (le_b rfl) ?_
    refine qV_ifeqB (pc := 15) 38 dX7_tells_15 (by decide) (fun c15 => ?_) (fun c15 => ?_)
    · have e0 : oTells X f a t = -1 := if_pos (by omega)
      refine qV_iconst (pc := 38) dX7_tells_38 ?_
      refine qV_iret (pc := 39) dX7_tells_39 rfl (le_b rfl) (le_b rfl) ?_
      exact ⟨by rw [e0], rfl, rfl⟩
    · refine qV_iload_n (pc := 18) 2 dX7_tells_18 rfl rfl ?_
      refine qV_iconst (pc := 19) dX7_tells_19 ?_
      refine qV_aload_n (pc := 20) 0 dX7_tells_20 rfl rfl ?_
      refine qV_iconst (pc := 21) dX7_tells_21 ?_
      refine qV_aload_n (pc := 22) 0 dX7_tells_22 rfl rfl ?_
      refine qV_get (pc := 23) kX7 0 (le_b rfl) lk_X7_7 rfl dX7_tells_23 (by first | assumption | exact hU_self _ _ _ | (refine (hU_ne (by omega)).trans ?_; first | assumption | exact hU_self _ _ _ | (refine (hU_ne (by omega)).trans ?_; first | assumption | exact hU_self _ _ _ | (refine (hU_ne (by omega)).trans ?_; first | assumption | exact hU_self _ _ _)))) (by exact rfl) ?_
      refine qV_iconst (pc := 26) dX7_tells_26 ?_
      refine qV_ialdN (pc := 27) (0) dX7_tells_27 (by first | assumption | exact hU_self _ _ _ | (refine (hU_ne (by omega)).trans ?_; first | assumption | exact hU_self _ _ _ | (refine (hU_ne (by omega)).trans ?_; first | assumption | exact hU_self _ _ _ | (refine (hU_ne (by omega)).trans ?_; first | assumption | exact hU_self _ _ _)))) (by omega) (by omega) p0 ?_
      refine qV_iload_n (pc := 28) 1 dX7_tells_28 rfl rfl ?_
      refine qV_rdV (pc := 29) (m_measure (w := f.toNat) (a := 0) (b := X.1.1) ho hs hP hw rfl rfl (by omega) (by omega) (Nat.zero_le _) (Nat.le_refl _)) nX7_measure kX7 lk_X7_96 dX7_tells_29 (by first | assumption | exact hU_self _ _ _ | (refine (hU_ne (by omega)).trans ?_; first | assumption | exact hU_self _ _ _ | (refine (hU_ne (by omega)).trans ?_; first | assumption | exact hU_self _ _ _ | (refine (hU_ne (by omega)).trans ?_; first | assumption | exact hU_self _ _ _)))) ⟨le_b rfl, le_b rfl⟩ ⟨le_b rfl, le_b rfl⟩ rfl (le_b rfl) ?_
      rw [hm0]
      refine qV_rdS (pc := 32) (m_in ⟨a1, a2⟩ ⟨by decide, by decide⟩ ⟨by omega, by omega⟩) nX7_in lk_X7_38 dX7_tells_32 ⟨le_b rfl, le_b rfl⟩ ⟨le_b rfl, le_b rfl⟩ rfl (le_b rfl) ?_
      refine qV_ifneB (pc := 35) 40 dX7_tells_35 (by decide) (fun c35 => ?_) (fun c35 => ?_)
      · have e9 : oTells X f a t = measM X.1.2.1 t.toNat (if f.toNat = 2 then lbN X.1.2.1 X.1.1 a.toNat else far X.1.2.1 f.toNat 0 a X.1.1 0) := if_neg (by omega)
        refine qV_iload_n (pc := 40) 1 dX7_tells_40 rfl rfl ?_
        refine qV_ifne (pc := 41) 48 dX7_tells_41 (by decide) ⟨by omega, by omega⟩ (fun c41 => ?_) (fun c41 => ?_)
        · refine qV_iload_n (pc := 48) 1 dX7_tells_48 rfl rfl ?_
          refine qV_iconst (pc := 49) dX7_tells_49 ?_
          refine qV_icmp_ne (pc := 50) 61 dX7_tells_50 (by decide) ⟨by omega, by omega⟩ ⟨by omega, by omega⟩ (fun c50 => ?_) (fun c50 => ?_)
          · obtain ⟨pl, epl⟩ : ∃ pl, pl = far X.1.2.1 f.toNat 0 a X.1.1 0 := ⟨_, rfl⟩
            have hpl : ((far X.1.2.1 f.toNat 0 a (X.1.1 - 0) 0 : Nat) : Int) = pl := by rw [epl]; rfl
            have hpn : pl ≤ X.1.1 := by omega
            have e0 : oTells X f a t = measM X.1.2.1 t.toNat pl - measM X.1.2.1 t.toNat 0 := by rw [e9, if_neg (by omega), epl]; simp [measM]
            refine qV_aload_n (pc := 61) 0 dX7_tells_61 rfl rfl ?_
            refine qV_iconst (pc := 62) dX7_tells_62 ?_
            refine qV_aload_n (pc := 63) 0 dX7_tells_63 rfl rfl ?_
            refine qV_get (pc := 64) kX7 0 (le_b rfl) lk_X7_7 rfl dX7_tells_64 (by first | assumption | exact hU_self _ _ _ | (refine (hU_ne (by omega)).trans ?_; first | assumption | exact hU_self _ _ _ | (refine (hU_ne (by omega)).trans ?_; first | assumption | exact hU_self _ _ _ | (refine (hU_ne (by omega)).trans ?_; first | assumption | exact hU_self _ _ _)))) (by exact rfl) ?_
            refine qV_iconst (pc := 67) dX7_tells_67 ?_
            refine qV_ialdN (pc := 68) (0) dX7_tells_68 (by first | assumption | exact hU_self _ _ _ | (refine (hU_ne (by omega)).trans ?_; first | assumption | exact hU_self _ _ _ | (refine (hU_ne (by omega)).trans ?_; first | assumption | exact hU_self _ _ _ | (refine (hU_ne (by omega)).trans ?_; first | assumption | exact hU_self _ _ _)))) (by omega) (by omega) p0 ?_
            refine qV_iload_n (pc := 69) 1 dX7_tells_69 rfl rfl ?_
            refine qV_iload_n (pc := 70) 2 dX7_tells_70 rfl rfl ?_
            refine qV_rdV (pc := 71) (m_beyond (w := f.toNat) (a := 0) (b := X.1.1) ho hs hP hw rfl rfl (by omega) (by omega) (Nat.zero_le _) (Nat.le_refl _) ⟨a1, a2⟩) nX7_beyond kX7 lk_X7_102 dX7_tells_71 (by first | assumption | exact hU_self _ _ _ | (refine (hU_ne (by omega)).trans ?_; first | assumption | exact hU_self _ _ _ | (refine (hU_ne (by omega)).trans ?_; first | assumption | exact hU_self _ _ _ | (refine (hU_ne (by omega)).trans ?_; first | assumption | exact hU_self _ _ _)))) ⟨le_b rfl, le_b rfl⟩ ⟨le_b rfl, le_b rfl⟩ rfl (le_b rfl) ?_
            refine qV_istore (pc := 74) 4 dX7_tells_74 (le_b rfl) (le_b rfl) rfl ?_
            refine qV_aload_n (pc := 76) 0 dX7_tells_76 rfl rfl ?_
            refine qV_iconst (pc := 77) dX7_tells_77 ?_
            refine qV_iload (pc := 78) 4 dX7_tells_78 rfl ?_
            refine qV_iload_n (pc := 80) 3 dX7_tells_80 rfl rfl ?_
            refine qV_rdV (pc := 81) (m_measure (w := t.toNat) (a := 0) (b := pl) ho hs hP hw rfl hpl (by omega) (by omega) (Nat.zero_le _) hpn) nX7_measure kX7 lk_X7_96 dX7_tells_81 (by first | assumption | exact hU_self _ _ _ | (refine (hU_ne (by omega)).trans ?_; first | assumption | exact hU_self _ _ _ | (refine (hU_ne (by omega)).trans ?_; first | assumption | exact hU_self _ _ _ | (refine (hU_ne (by omega)).trans ?_; first | assumption | exact hU_self _ _ _)))) ⟨le_b rfl, le_b rfl⟩ ⟨le_b rfl, le_b rfl⟩ rfl (le_b rfl) ?_
            refine qV_iret (pc := 84) dX7_tells_84 rfl (le_b rfl) (le_b rfl) ?_
            exact ⟨by rw [e0], rfl, rfl⟩
          · have hf2 : f.toNat = 2 := by omega
            rw [hf2, nl_meas] at c35
            obtain ⟨pl, epl⟩ : ∃ pl, pl = lbN X.1.2.1 X.1.1 a.toNat := ⟨_, rfl⟩
            have hka : a.toNat ≤ nl X.1.2.1 X.1.1 := by omega
            have hpl : ((lnA X.1.2.1 X.1.1 a.toNat : Nat) : Int) = pl := by rw [epl, lnA_le hka]
            have hpn : pl ≤ X.1.1 := by rw [epl]; exact (lb_spec X.1.2.1 hka).1
            have e0 : oTells X f a t = measM X.1.2.1 t.toNat pl - measM X.1.2.1 t.toNat 0 := by rw [e9, if_pos hf2, epl]; simp [measM]
            refine qV_aload_n (pc := 53) 0 dX7_tells_53 rfl rfl ?_
            refine qV_iload_n (pc := 54) 2 dX7_tells_54 rfl rfl ?_
            refine qV_rdV (pc := 55) (m_lineAt (k := a.toNat) ho hs hP hw (by omega) (by omega)) nX7_lineAt kX7 lk_X7_99 dX7_tells_55 (by first | assumption | exact hU_self _ _ _ | (refine (hU_ne (by omega)).trans ?_; first | assumption | exact hU_self _ _ _ | (refine (hU_ne (by omega)).trans ?_; first | assumption | exact hU_self _ _ _ | (refine (hU_ne (by omega)).trans ?_; first | assumption | exact hU_self _ _ _)))) ⟨le_b rfl, le_b rfl⟩ ⟨le_b rfl, le_b rfl⟩ rfl (le_b rfl) ?_
            refine qV_goto (pc := 58) 74 dX7_tells_58 (by decide) ?_
            refine qV_istore (pc := 74) 4 dX7_tells_74 (le_b rfl) (le_b rfl) rfl ?_
            refine qV_aload_n (pc := 76) 0 dX7_tells_76 rfl rfl ?_
            refine qV_iconst (pc := 77) dX7_tells_77 ?_
            refine qV_iload (pc := 78) 4 dX7_tells_78 rfl ?_
            refine qV_iload_n (pc := 80) 3 dX7_tells_80 rfl rfl ?_
            refine qV_rdV (pc := 81) (m_measure (w := t.toNat) (a := 0) (b := pl) ho hs hP hw rfl hpl (by omega) (by omega) (Nat.zero_le _) hpn) nX7_measure kX7 lk_X7_96 dX7_tells_81 (by first | assumption | exact hU_self _ _ _ | (refine (hU_ne (by omega)).trans ?_; first | assumption | exact hU_self _ _ _ | (refine (hU_ne (by omega)).trans ?_; first | assumption | exact hU_self _ _ _ | (refine (hU_ne (by omega)).trans ?_; first | assumption | exact hU_self _ _ _)))) ⟨le_b rfl, le_b rfl⟩ ⟨le_b rfl, le_b rfl⟩ rfl (le_b rfl) ?_
            refine qV_iret (pc := 84) dX7_tells_84 rfl (le_b rfl) (le_b rfl) ?_
            exact ⟨by rw [e0], rfl, rfl⟩
        · obtain ⟨pl, epl⟩ : ∃ pl, pl = a.toNat := ⟨_, rfl⟩
          have hf0 : f.toNat = 0 := by omega
          rw [hf0, measM_0] at c35
          have hpl : a = pl := by omega
          have hpn : pl ≤ X.1.1 := by omega
          have e0 : oTells X f a t = measM X.1.2.1 t.toNat pl - measM X.1.2.1 t.toNat 0 := by
            rw [e9, if_neg (by omega), hf0, hpl, far_0 X.1.2.1 pl X.1.1 0 (Nat.zero_le _) (by omega)]; simp [measM]
          refine qV_iload_n (pc := 44) 2 dX7_tells_44 rfl rfl ?_
          refine qV_goto (pc := 45) 74 dX7_tells_45 (by decide) ?_
          refine qV_istore (pc := 74) 4 dX7_tells_74 (le_b rfl) (le_b rfl) rfl ?_
          refine qV_aload_n (pc := 76) 0 dX7_tells_76 rfl rfl ?_
          refine qV_iconst (pc := 77) dX7_tells_77 ?_
          refine qV_iload (pc := 78) 4 dX7_tells_78 rfl ?_
          refine qV_iload_n (pc := 80) 3 dX7_tells_80 rfl rfl ?_
          refine qV_rdV (pc := 81) (m_measure (w := t.toNat) (a := 0) (b := pl) ho hs hP hw rfl hpl (by omega) (by omega) (Nat.zero_le _) hpn) nX7_measure kX7 lk_X7_96 dX7_tells_81 (by first | assumption | exact hU_self _ _ _ | (refine (hU_ne (by omega)).trans ?_; first | assumption | exact hU_self _ _ _ | (refine (hU_ne (by omega)).trans ?_; first | assumption | exact hU_self _ _ _ | (refine (hU_ne (by omega)).trans ?_; first | assumption | exact hU_self _ _ _)))) ⟨le_b rfl, le_b rfl⟩ ⟨le_b rfl, le_b rfl⟩ rfl (le_b rfl) ?_
          refine qV_iret (pc := 84) dX7_tells_84 rfl (le_b rfl) (le_b rfl) ?_
          exact ⟨by rw [e0], rfl, rfl⟩
      · have e0 : oTells X f a t = -1 := if_pos (by omega)
        refine qV_iconst (pc := 38) dX7_tells_38 ?_
        refine qV_iret (pc := 39) dX7_tells_39 rfl (le_b rfl) (le_b rfl) ?_
        exact ⟨by rw [e0], rfl, rfl⟩
set_option maxRecDepth 100000 in
set_option maxHeartbeats 4000000 in
theorem r_spot {x w : Int} (hx : iR x) (hw0 : iR w) (ho : h r = some (rob r kn ty st)) (hs : h (r + 1) = some (iA 0 541 s)) (hP : SP s X.1) (wx : wfX X) : qRd l mX7_spot [.ref r, vI x, vI w] h sz (vI (oSpot X x w)) := by
  obtain ⟨p0, p1, p2, pT, pC, pM⟩ := id hP
  have hw : wf 216 X.1 := wx.1.1.up (by have := wx.1.1.1; omega)
  obtain ⟨⟨⟨w1, w2, w3, w4, w5, w6, w7⟩, w8⟩, -⟩ := id wx
  have wcl := hw.c_le
  have hnl := nl_le X.1.2.1 X.1.1
  obtain ⟨x1, x2⟩ := hx
  obtain ⟨q1, q2⟩ := hw0
  refine qC.of 1 (by decide) (le_b rfl) ?_
  refine qV_aload_n (pc := 0) 0 dX7_spot_0 rfl rfl ?_
  refine qV_iload_n (pc := 1) 1 dX7_spot_1 rfl rfl ?_
  refine qV_rdV (pc := 2) (m_isPlace ⟨x1, x2⟩ ho hs hP hw) nX7_isPlace kX7 lk_X7_68 dX7_spot_2 (by first | assumption | exact hU_self _ _ _ | (refine (hU_ne (by omega)).trans ?_; first | assumption | exact hU_self _ _ _ | (refine (hU_ne (by omega)).trans ?_; first | assumption | exact hU_self _ _ _ | (refine (hU_ne (by omega)).trans ?_; first | assumption | exact hU_self _ _ _)))) ⟨le_b rfl, le_b rfl⟩ ⟨le_b rfl, le_b rfl⟩ rfl (le_b rfl) ?_
  refine qV_ifeqB (pc := 5) 17 dX7_spot_5 (by decide) (fun c5 => ?_) (fun c5 => ?_)
  · have e0 : oSpot X x w = -1 := if_pos (by omega)
    refine qV_iconst (pc := 17) dX7_spot_17 ?_
    refine qV_iret (pc := 18) dX7_spot_18 rfl (le_b rfl) (le_b rfl) ?_
    exact ⟨by rw [e0], rfl, rfl⟩
  · refine qV_iload_n (pc := 8) 2 dX7_spot_8 rfl rfl ?_
    refine qV_iconst (pc := 9) dX7_spot_9 ?_
    refine qV_iconst (pc := 10) dX7_spot_10 ?_
    refine qV_rdS (pc := 11) (m_in ⟨q1, q2⟩ ⟨by decide, by decide⟩ ⟨by decide, by decide⟩) nX7_in lk_X7_38 dX7_spot_11 ⟨le_b rfl, le_b rfl⟩ ⟨le_b rfl, le_b rfl⟩ rfl (le_b rfl) ?_
    refine qV_ifneB (pc := 14) 19 dX7_spot_14 (by decide) (fun c14 => ?_) (fun c14 => ?_)
    · have hk0 := nl_le X.1.2.1 x.toNat
      have hkn : nl X.1.2.1 x.toNat ≤ nl X.1.2.1 X.1.1 := nl_mono _ (by omega)
      have hsp := lb_spec X.1.2.1 (j := X.1.1) (k := nl X.1.2.1 x.toNat) hkn
      have hlb : lbN X.1.2.1 X.1.1 (nl X.1.2.1 x.toNat) ≤ x.toNat := by
        rcases Nat.lt_or_ge x.toNat (lbN X.1.2.1 X.1.1 (nl X.1.2.1 x.toNat)) with q | q
        · have := hsp.2.2 _ q; omega
        · exact q
      refine qV_aload_n (pc := 19) 0 dX7_spot_19 rfl rfl ?_
      refine qV_iconst (pc := 20) dX7_spot_20 ?_
      refine qV_iload_n (pc := 21) 1 dX7_spot_21 rfl rfl ?_
      refine qV_iconst (pc := 22) dX7_spot_22 ?_
      refine qV_rdV (pc := 23) (m_measure (w := 2) (a := 0) (b := x.toNat) ho hs hP hw rfl (by omega) rfl (by omega) (Nat.zero_le _) (by omega)) nX7_measure kX7 lk_X7_96 dX7_spot_23 (by first | assumption | exact hU_self _ _ _ | (refine (hU_ne (by omega)).trans ?_; first | assumption | exact hU_self _ _ _ | (refine (hU_ne (by omega)).trans ?_; first | assumption | exact hU_self _ _ _ | (refine (hU_ne (by omega)).trans ?_; first | assumption | exact hU_self _ _ _)))) ⟨le_b rfl, le_b rfl⟩ ⟨le_b rfl, le_b rfl⟩ rfl (le_b rfl) ?_
      rw [show measM X.1.2.1 2 x.toNat - measM X.1.2.1 2 0 = (nl X.1.2.1 x.toNat : Int) by rw [nl_meas]; simp [measM]]
      refine qV_istore_n (pc := 26) 3 dX7_spot_26 rfl (le_b rfl) (le_b rfl) rfl ?_
      refine qV_iload_n (pc := 27) 2 dX7_spot_27 rfl rfl ?_
      refine qV_ifne (pc := 28) 35 dX7_spot_28 (by decide) ⟨by omega, by omega⟩ (fun c28 => ?_) (fun c28 => ?_)
      · have e0 : oSpot X x w = measM X.1.2.1 (mil w) x.toNat - measM X.1.2.1 (mil w) (lbN X.1.2.1 X.1.1 (nl X.1.2.1 x.toNat)) := by simp only [oSpot]; rw [if_neg (by omega), if_neg (by omega)]
        refine qV_aload_n (pc := 35) 0 dX7_spot_35 rfl rfl ?_
        refine qV_aload_n (pc := 36) 0 dX7_spot_36 rfl rfl ?_
        refine qV_iload_n (pc := 37) 3 dX7_spot_37 rfl rfl ?_
        refine qV_rdV (pc := 38) (m_lineAt (k := nl X.1.2.1 x.toNat) ho hs hP hw rfl (by omega)) nX7_lineAt kX7 lk_X7_99 dX7_spot_38 (by first | assumption | exact hU_self _ _ _ | (refine (hU_ne (by omega)).trans ?_; first | assumption | exact hU_self _ _ _ | (refine (hU_ne (by omega)).trans ?_; first | assumption | exact hU_self _ _ _ | (refine (hU_ne (by omega)).trans ?_; first | assumption | exact hU_self _ _ _)))) ⟨le_b rfl, le_b rfl⟩ ⟨le_b rfl, le_b rfl⟩ rfl (le_b rfl) ?_
        rw [lnA_le hkn]
        refine qV_iload_n (pc := 41) 1 dX7_spot_41 rfl rfl ?_
        refine qV_iload_n (pc := 42) 2 dX7_spot_42 rfl rfl ?_
        refine qV_iconst (pc := 43) dX7_spot_43 ?_
        refine qV_icmp_ne (pc := 44) 51 dX7_spot_44 (by decide) ⟨by omega, by omega⟩ ⟨by omega, by omega⟩ (fun c44 => ?_) (fun c44 => ?_)
        · refine qV_iload_n (pc := 51) 2 dX7_spot_51 rfl rfl ?_
          refine qV_iconst (pc := 52) dX7_spot_52 ?_
          refine qV_isub (pc := 53) dX7_spot_53 ?_
          refine qV_iload_n (pc := 54) 2 dX7_spot_54 rfl rfl ?_
          refine qV_iconst (pc := 55) dX7_spot_55 ?_
          refine qV_icmp_ne (pc := 56) 63 dX7_spot_56 (by decide) ⟨by omega, by omega⟩ ⟨by omega, by omega⟩ (fun c56 => ?_) (fun c56 => ?_)
          · have hmw : w - 1 + 0 = ((mil w : Nat) : Int) := by simp only [mil]; rw [if_neg (by omega), if_pos (by omega)]; omega
            refine qV_iconst (pc := 63) dX7_spot_63 ?_
            refine qV_iadd (pc := 64) dX7_spot_64 ?_
            refine qV_rdV (pc := 65) (m_measure (w := mil w) (a := lbN X.1.2.1 X.1.1 (nl X.1.2.1 x.toNat)) (b := x.toNat) ho hs hP hw rfl (by omega) hmw (mil_lt w) hlb (by omega)) nX7_measure kX7 lk_X7_96 dX7_spot_65 (by first | assumption | exact hU_self _ _ _ | (refine (hU_ne (by omega)).trans ?_; first | assumption | exact hU_self _ _ _ | (refine (hU_ne (by omega)).trans ?_; first | assumption | exact hU_self _ _ _ | (refine (hU_ne (by omega)).trans ?_; first | assumption | exact hU_self _ _ _)))) ⟨le_b rfl, le_b rfl⟩ ⟨le_b rfl, le_b rfl⟩ rfl (le_b rfl) ?_
            refine qV_iret (pc := 68) dX7_spot_68 rfl (le_b rfl) (le_b rfl) ?_
            exact ⟨by rw [e0], rfl, rfl⟩
          · have hmw : w - 1 + 1 = ((mil w : Nat) : Int) := by simp only [mil]; rw [if_neg (by omega), if_neg (by omega)]; omega
            refine qV_iconst (pc := 59) dX7_spot_59 ?_
            refine qV_goto (pc := 60) 64 dX7_spot_60 (by decide) ?_
            refine qV_iadd (pc := 64) dX7_spot_64 ?_
            refine qV_rdV (pc := 65) (m_measure (w := mil w) (a := lbN X.1.2.1 X.1.1 (nl X.1.2.1 x.toNat)) (b := x.toNat) ho hs hP hw rfl (by omega) hmw (mil_lt w) hlb (by omega)) nX7_measure kX7 lk_X7_96 dX7_spot_65 (by first | assumption | exact hU_self _ _ _ | (refine (hU_ne (by omega)).trans ?_; first | assumption | exact hU_self _ _ _ | (refine (hU_ne (by omega)).trans ?_; first | assumption | exact hU_self _ _ _ | (refine (hU_ne (by omega)).trans ?_; first | assumption | exact hU_self _ _ _)))) ⟨le_b rfl, le_b rfl⟩ ⟨le_b rfl, le_b rfl⟩ rfl (le_b rfl) ?_
            refine qV_iret (pc := 68) dX7_spot_68 rfl (le_b rfl) (le_b rfl) ?_
            exact ⟨by rw [e0], rfl, rfl⟩
        · have hmw : (0 : Int) = ((mil w : Nat) : Int) := by simp only [mil]; rw [if_pos (by omega)]; rfl
          refine qV_iconst (pc := 47) dX7_spot_47 ?_
          refine qV_goto (pc := 48) 65 dX7_spot_48 (by decide) ?_
          refine qV_rdV (pc := 65) (m_measure (w := mil w) (a := lbN X.1.2.1 X.1.1 (nl X.1.2.1 x.toNat)) (b := x.toNat) ho hs hP hw rfl (by omega) hmw (mil_lt w) hlb (by omega)) nX7_measure kX7 lk_X7_96 dX7_spot_65 (by first | assumption | exact hU_self _ _ _ | (refine (hU_ne (by omega)).trans ?_; first | assumption | exact hU_self _ _ _ | (refine (hU_ne (by omega)).trans ?_; first | assumption | exact hU_self _ _ _ | (refine (hU_ne (by omega)).trans ?_; first | assumption | exact hU_self _ _ _)))) ⟨le_b rfl, le_b rfl⟩ ⟨le_b rfl, le_b rfl⟩ rfl (le_b rfl) ?_
          refine qV_iret (pc := 68) dX7_spot_68 rfl (le_b rfl) (le_b rfl) ?_
          exact ⟨by rw [e0], rfl, rfl⟩
      · have e0 : oSpot X x w = nl X.1.2.1 x.toNat := by simp only [oSpot]; rw [if_neg (by omega), if_pos (by omega)]
        refine qV_iload_n (pc := 31) 3 dX7_spot_31 rfl rfl ?_
        refine qV_goto (pc := 32) 68 dX7_spot_32 (by decide) ?_
        refine qV_iret (pc := 68) dX7_spot_68 rfl (le_b rfl) (le_b rfl) ?_
        exact ⟨by rw [e0], rfl, rfl⟩
    · have e0 : oSpot X x w = -1 := if_pos (by omega)
      refine qV_iconst (pc := 17) dX7_spot_17 ?_
      refine qV_iret (pc := 18) dX7_spot_18 rfl (le_b rfl) (le_b rfl) ?_
      exact ⟨by rw [e0], rfl, rfl⟩
set_option maxRecDepth 100000 in
set_option maxHeartbeats 4000000 in
theorem r_column {x w : Int} (hx : iR x) (hw0 : iR w) (ho : h r = some (rob r kn ty st)) (hs : h (r + 1) = some (iA 0 541 s)) (hP : SP s X.1) (wx : wfX X) : qRd l mX7_column [.ref r, vI x, vI w] h sz (vI (oColumn X x w)) := by
  obtain ⟨p0, p1, p2, pT, pC, pM⟩ := id hP
  have hw : wf 216 X.1 := wx.1.1.up (by have := wx.1.1.1; omega)
  obtain ⟨⟨⟨w1, w2, w3, w4, w5, w6, w7⟩, w8⟩, -⟩ := id wx
  have wcl := hw.c_le
  have hnl := nl_le X.1.2.1 X.1.1
  obtain ⟨x1, x2⟩ := hx
  obtain ⟨q1, q2⟩ := hw0
  refine qC.of 0 (by decide) (le_b rfl) ?_
  refine qV_aload_n (pc := 0) 0 dX7_column_0 rfl rfl ?_
  refine qV_iload_n (pc := 1) 1 dX7_column_1 rfl rfl ?_
  refine qV_rdV (pc := 2) (m_isLine ⟨x1, x2⟩ ho hs hP hw) nX7_isLine kX7 lk_X7_110 dX7_column_2 (by first | assumption | exact hU_self _ _ _ | (refine (hU_ne (by omega)).trans ?_; first | assumption | exact hU_self _ _ _ | (refine (hU_ne (by omega)).trans ?_; first | assumption | exact hU_self _ _ _ | (refine (hU_ne (by omega)).trans ?_; first | assumption | exact hU_self _ _ _)))) ⟨le_b rfl, le_b rfl⟩ ⟨le_b rfl, le_b rfl⟩ rfl (le_b rfl) ?_
  refine qV_ifeqB (pc := 5) 31 dX7_column_5 (by decide) (fun c5 => ?_) (fun c5 => ?_)
  · have e0 : oColumn X x w = -1 := if_pos (by omega)
    refine qV_iconst (pc := 31) dX7_column_31 ?_
    refine qV_iret (pc := 32) dX7_column_32 rfl (le_b rfl) (le_b rfl) ?_
    exact ⟨by rw [e0], rfl, rfl⟩
  · refine qV_iload_n (pc := 8) 2 dX7_column_8 rfl rfl ?_
    refine qV_iflt (pc := 9) 31 dX7_column_9 (by decide) ⟨by omega, by omega⟩ (fun c9 => ?_) (fun c9 => ?_)
    · have e0 : oColumn X x w = -1 := if_pos (by omega)
      refine qV_iconst (pc := 31) dX7_column_31 ?_
      refine qV_iret (pc := 32) dX7_column_32 rfl (le_b rfl) (le_b rfl) ?_
      exact ⟨by rw [e0], rfl, rfl⟩
    · have hk : x.toNat ≤ nl X.1.2.1 X.1.1 := by omega
      have e0 : oColumn X x w = far X.1.2.1 3 (lbN X.1.2.1 X.1.1 x.toNat) w (lnE X.1.2.1 X.1.1 x.toNat - lbN X.1.2.1 X.1.1 x.toNat) (lbN X.1.2.1 X.1.1 x.toNat) := by simp only [oColumn]; rw [if_neg (by omega)]
      refine qV_aload_n (pc := 12) 0 dX7_column_12 rfl rfl ?_
      refine qV_aload_n (pc := 13) 0 dX7_column_13 rfl rfl ?_
      refine qV_iload_n (pc := 14) 1 dX7_column_14 rfl rfl ?_
      refine qV_rdV (pc := 15) (m_lineAt (k := x.toNat) ho hs hP hw (by omega) (by omega)) nX7_lineAt kX7 lk_X7_99 dX7_column_15 (by first | assumption | exact hU_self _ _ _ | (refine (hU_ne (by omega)).trans ?_; first | assumption | exact hU_self _ _ _ | (refine (hU_ne (by omega)).trans ?_; first | assumption | exact hU_self _ _ _ | (refine (hU_ne (by omega)).trans ?_; first | assumption | exact hU_self _ _ _)))) ⟨le_b rfl, le_b rfl⟩ ⟨le_b rfl, le_b rfl⟩ rfl (le_b rfl) ?_
      rw [lnA_le hk]
      refine qV_aload_n (pc := 18) 0 dX7_column_18 rfl rfl ?_
      refine qV_iload_n (pc := 19) 1 dX7_column_19 rfl rfl ?_
      refine qV_rdV (pc := 20) (m_endOf (k := x.toNat) ho hs hP hw (by omega) hk) nX7_endOf kX7 lk_X7_113 dX7_column_20 (by first | assumption | exact hU_self _ _ _ | (refine (hU_ne (by omega)).trans ?_; first | assumption | exact hU_self _ _ _ | (refine (hU_ne (by omega)).trans ?_; first | assumption | exact hU_self _ _ _ | (refine (hU_ne (by omega)).trans ?_; first | assumption | exact hU_self _ _ _)))) ⟨le_b rfl, le_b rfl⟩ ⟨le_b rfl, le_b rfl⟩ rfl (le_b rfl) ?_
      refine qV_iconst (pc := 23) dX7_column_23 ?_
      refine qV_iload_n (pc := 24) 2 dX7_column_24 rfl rfl ?_
      refine qV_rdV (pc := 25) (m_beyond (w := 3) ho hs hP hw rfl rfl rfl (by omega) (lnE_in hk).1 (lnE_in hk).2 ⟨q1, q2⟩) nX7_beyond kX7 lk_X7_102 dX7_column_25 (by first | assumption | exact hU_self _ _ _ | (refine (hU_ne (by omega)).trans ?_; first | assumption | exact hU_self _ _ _ | (refine (hU_ne (by omega)).trans ?_; first | assumption | exact hU_self _ _ _ | (refine (hU_ne (by omega)).trans ?_; first | assumption | exact hU_self _ _ _)))) ⟨le_b rfl, le_b rfl⟩ ⟨le_b rfl, le_b rfl⟩ rfl (le_b rfl) ?_
      refine qV_goto (pc := 28) 32 dX7_column_28 (by decide) ?_
      refine qV_iret (pc := 32) dX7_column_32 rfl (le_b rfl) (le_b rfl) ?_
      exact ⟨by rw [e0], rfl, rfl⟩
set_option maxRecDepth 100000 in
set_option maxHeartbeats 4000000 in
theorem r_line {x w : Int} (hx : iR x) (hw0 : iR w) (ho : h r = some (rob r kn ty st)) (hs : h (r + 1) = some (iA 0 541 s)) (hP : SP s X.1) (wx : wfX X) : qRd l mX7_line [.ref r, vI x, vI w] h sz (vI (oLine X x w)) := by
  obtain ⟨p0, p1, p2, pT, pC, pM⟩ := id hP
  have hw : wf 216 X.1 := wx.1.1.up (by have := wx.1.1.1; omega)
  obtain ⟨⟨⟨w1, w2, w3, w4, w5, w6, w7⟩, w8⟩, -⟩ := id wx
  have wcl := hw.c_le
  have hnl := nl_le X.1.2.1 X.1.1
  obtain ⟨x1, x2⟩ := hx
  obtain ⟨q1, q2⟩ := hw0
  refine qC.of 1 (by decide) (le_b rfl) ?_
  refine qV_aload_n (pc := 0) 0 dX7_line_0 rfl rfl ?_
  refine qV_iload_n (pc := 1) 1 dX7_line_1 rfl rfl ?_
  refine qV_rdV (pc := 2) (m_isLine ⟨x1, x2⟩ ho hs hP hw) nX7_isLine kX7 lk_X7_110 dX7_line_2 (by first | assumption | exact hU_self _ _ _ | (refine (hU_ne (by omega)).trans ?_; first | assumption | exact hU_self _ _ _ | (refine (hU_ne (by omega)).trans ?_; first | assumption | exact hU_self _ _ _ | (refine (hU_ne (by omega)).trans ?_; first | assumption | exact hU_self _ _ _)))) ⟨le_b rfl, le_b rfl⟩ ⟨le_b rfl, le_b rfl⟩ rfl (le_b rfl) ?_
  refine qV_ifeqB (pc := 5) 17 dX7_line_5 (by decide) (fun c5 => ?_) (fun c5 => ?_)
  · have e0 : oLine X x w = -1 := if_pos (by omega)
    refine qV_iconst (pc := 17) dX7_line_17 ?_
    refine qV_iret (pc := 18) dX7_line_18 rfl (le_b rfl) (le_b rfl) ?_
    exact ⟨by rw [e0], rfl, rfl⟩
  · refine qV_iload_n (pc := 8) 2 dX7_line_8 rfl rfl ?_
    refine qV_iconst (pc := 9) dX7_line_9 ?_
    refine qV_iconst (pc := 10) dX7_line_10 ?_
    refine qV_rdS (pc := 11) (m_in ⟨q1, q2⟩ ⟨by decide, by decide⟩ ⟨by decide, by decide⟩) nX7_in lk_X7_38 dX7_line_11 ⟨le_b rfl, le_b rfl⟩ ⟨le_b rfl, le_b rfl⟩ rfl (le_b rfl) ?_
    refine qV_ifneB (pc := 14) 19 dX7_line_14 (by decide) (fun c14 => ?_) (fun c14 => ?_)
    · have hk : x.toNat ≤ nl X.1.2.1 X.1.1 := by omega
      refine qV_aload_n (pc := 19) 0 dX7_line_19 rfl rfl ?_
      refine qV_iload_n (pc := 20) 1 dX7_line_20 rfl rfl ?_
      refine qV_rdV (pc := 21) (m_lineAt (k := x.toNat) ho hs hP hw (by omega) (by omega)) nX7_lineAt kX7 lk_X7_99 dX7_line_21 (by first | assumption | exact hU_self _ _ _ | (refine (hU_ne (by omega)).trans ?_; first | assumption | exact hU_self _ _ _ | (refine (hU_ne (by omega)).trans ?_; first | assumption | exact hU_self _ _ _ | (refine (hU_ne (by omega)).trans ?_; first | assumption | exact hU_self _ _ _)))) ⟨le_b rfl, le_b rfl⟩ ⟨le_b rfl, le_b rfl⟩ rfl (le_b rfl) ?_
      rw [lnA_le hk]
      refine qV_istore_n (pc := 24) 3 dX7_line_24 rfl (le_b rfl) (le_b rfl) rfl ?_
      refine qV_iload_n (pc := 25) 2 dX7_line_25 rfl rfl ?_
      refine qV_ifne (pc := 26) 33 dX7_line_26 (by decide) ⟨by omega, by omega⟩ (fun c26 => ?_) (fun c26 => ?_)
      · have e0 : oLine X x w = measM X.1.2.1 (mil w) (lnE X.1.2.1 X.1.1 x.toNat) - measM X.1.2.1 (mil w) (lbN X.1.2.1 X.1.1 x.toNat) := by simp only [oLine]; rw [if_neg (by omega), if_neg (by omega)]
        refine qV_aload_n (pc := 33) 0 dX7_line_33 rfl rfl ?_
        refine qV_iload_n (pc := 34) 3 dX7_line_34 rfl rfl ?_
        refine qV_aload_n (pc := 35) 0 dX7_line_35 rfl rfl ?_
        refine qV_iload_n (pc := 36) 1 dX7_line_36 rfl rfl ?_
        refine qV_rdV (pc := 37) (m_endOf (k := x.toNat) ho hs hP hw (by omega) hk) nX7_endOf kX7 lk_X7_113 dX7_line_37 (by first | assumption | exact hU_self _ _ _ | (refine (hU_ne (by omega)).trans ?_; first | assumption | exact hU_self _ _ _ | (refine (hU_ne (by omega)).trans ?_; first | assumption | exact hU_self _ _ _ | (refine (hU_ne (by omega)).trans ?_; first | assumption | exact hU_self _ _ _)))) ⟨le_b rfl, le_b rfl⟩ ⟨le_b rfl, le_b rfl⟩ rfl (le_b rfl) ?_
        refine qV_iload_n (pc := 40) 2 dX7_line_40 rfl rfl ?_
        refine qV_iconst (pc := 41) dX7_line_41 ?_
        refine qV_icmp_ne (pc := 42) 49 dX7_line_42 (by decide) ⟨by omega, by omega⟩ ⟨by omega, by omega⟩ (fun c42 => ?_) (fun c42 => ?_)
        · refine qV_iload_n (pc := 49) 2 dX7_line_49 rfl rfl ?_
          refine qV_iconst (pc := 50) dX7_line_50 ?_
          refine qV_icmp_ne (pc := 51) 58 dX7_line_51 (by decide) ⟨by omega, by omega⟩ ⟨by omega, by omega⟩ (fun c51 => ?_) (fun c51 => ?_)
          · have hmw : (3 : Int) = ((mil w : Nat) : Int) := by simp only [mil]; rw [if_neg (by omega), if_neg (by omega)]; rfl
            refine qV_iconst (pc := 58) dX7_line_58 ?_
            refine qV_rdV (pc := 59) (m_measure (w := mil w) ho hs hP hw rfl rfl hmw (mil_lt w) (lnE_in hk).1 (lnE_in hk).2) nX7_measure kX7 lk_X7_96 dX7_line_59 (by first | assumption | exact hU_self _ _ _ | (refine (hU_ne (by omega)).trans ?_; first | assumption | exact hU_self _ _ _ | (refine (hU_ne (by omega)).trans ?_; first | assumption | exact hU_self _ _ _ | (refine (hU_ne (by omega)).trans ?_; first | assumption | exact hU_self _ _ _)))) ⟨le_b rfl, le_b rfl⟩ ⟨le_b rfl, le_b rfl⟩ rfl (le_b rfl) ?_
            refine qV_iret (pc := 62) dX7_line_62 rfl (le_b rfl) (le_b rfl) ?_
            exact ⟨by rw [e0], rfl, rfl⟩
          · have hmw : (1 : Int) = ((mil w : Nat) : Int) := by simp only [mil]; rw [if_neg (by omega), if_pos (by omega)]; rfl
            refine qV_iconst (pc := 54) dX7_line_54 ?_
            refine qV_goto (pc := 55) 59 dX7_line_55 (by decide) ?_
            refine qV_rdV (pc := 59) (m_measure (w := mil w) ho hs hP hw rfl rfl hmw (mil_lt w) (lnE_in hk).1 (lnE_in hk).2) nX7_measure kX7 lk_X7_96 dX7_line_59 (by first | assumption | exact hU_self _ _ _ | (refine (hU_ne (by omega)).trans ?_; first | assumption | exact hU_self _ _ _ | (refine (hU_ne (by omega)).trans ?_; first | assumption | exact hU_self _ _ _ | (refine (hU_ne (by omega)).trans ?_; first | assumption | exact hU_self _ _ _)))) ⟨le_b rfl, le_b rfl⟩ ⟨le_b rfl, le_b rfl⟩ rfl (le_b rfl) ?_
            refine qV_iret (pc := 62) dX7_line_62 rfl (le_b rfl) (le_b rfl) ?_
            exact ⟨by rw [e0], rfl, rfl⟩
        · have hmw : (0 : Int) = ((mil w : Nat) : Int) := by simp only [mil]; rw [if_pos (by omega)]; rfl
          refine qV_iconst (pc := 45) dX7_line_45 ?_
          refine qV_goto (pc := 46) 59 dX7_line_46 (by decide) ?_
          refine qV_rdV (pc := 59) (m_measure (w := mil w) ho hs hP hw rfl rfl hmw (mil_lt w) (lnE_in hk).1 (lnE_in hk).2) nX7_measure kX7 lk_X7_96 dX7_line_59 (by first | assumption | exact hU_self _ _ _ | (refine (hU_ne (by omega)).trans ?_; first | assumption | exact hU_self _ _ _ | (refine (hU_ne (by omega)).trans ?_; first | assumption | exact hU_self _ _ _ | (refine (hU_ne (by omega)).trans ?_; first | assumption | exact hU_self _ _ _)))) ⟨le_b rfl, le_b rfl⟩ ⟨le_b rfl, le_b rfl⟩ rfl (le_b rfl) ?_
          refine qV_iret (pc := 62) dX7_line_62 rfl (le_b rfl) (le_b rfl) ?_
          exact ⟨by rw [e0], rfl, rfl⟩
      · have e0 : oLine X x w = lbN X.1.2.1 X.1.1 x.toNat := by simp only [oLine]; rw [if_neg (by omega), if_pos (by omega)]
        refine qV_iload_n (pc := 29) 3 dX7_line_29 rfl rfl ?_
        refine qV_goto (pc := 30) 62 dX7_line_30 (by decide) ?_
        refine qV_iret (pc := 62) dX7_line_62 rfl (le_b rfl) (le_b rfl) ?_
        exact ⟨by rw [e0], rfl, rfl⟩
    · have e0 : oLine X x w = -1 := if_pos (by omega)
      refine qV_iconst (pc := 17) dX7_line_17 ?_
      refine qV_iret (pc := 18) dX7_line_18 rfl (le_b rfl) (le_b rfl) ?_
      exact ⟨by rw [e0], rfl, rfl⟩
theorem cnt_succ (w : Nat → Int) (a j : Nat) : (List.range (j + 1)).countP (fun o => decide (wB w o a)) = (List.range j).countP (fun o => decide (wB w o a)) + (if wB w j a then 1 else 0) := by
  rw [List.range_succ, List.countP_append, List.countP_singleton]
  by_cases e : wB w j a
  · rw [if_pos e]; simp [e]
  · rw [if_neg e]; simp [e]
theorem cnt_le (w : Nat → Int) (a : Nat) : ∀ j, (List.range j).countP (fun o => decide (wB w o a)) ≤ j := fun j => by
  have := List.countP_le_length (p := fun o => decide (wB w o a)) (l := List.range j)
  rw [List.length_range] at this
  exact this
set_option maxRecDepth 100000 in
set_option maxHeartbeats 4000000 in
theorem wide_inner {k a : Nat} {x y z q : Int} (ho : h r = some (rob r kn ty st)) (hs : h (r + 1) = some (iA 0 541 s)) (hP : SP s X.1) (wx : wfX X) (ha : a ≤ nl X.1.2.1 X.1.1) (hq : q = a) (hy : y = (nl X.1.2.1 X.1.1 : Int) + 1)
    (kk : ∀ (c u : Int) (x8 : Option Value), c = ((List.range (nl X.1.2.1 X.1.1 + 1)).countP (fun o => decide (wB (lnW X.1.2.1 X.1.1) o a))) → qVM l mX7_wide 0 0 h sz (fun v h' sz' => v = some (vI ((fnd (lnW X.1.2.1 X.1.1) (nl X.1.2.1 X.1.1 + 1) k (nl X.1.2.1 X.1.1 + 1) : Nat) : Int)) ∧ h' = h ∧ sz' = sz) 0 0 h sz 94 [some (.ref r), some (vI x), some (vI y), some (vI z), some (vI q), some (vI (lnW X.1.2.1 X.1.1 a)), some (vI c), some (vI u), x8] []) :
    ∀ (m j : Nat) (c u : Int) (x8 : Option Value), (nl X.1.2.1 X.1.1 + 1) - j = m → j ≤ (nl X.1.2.1 X.1.1 + 1) → u = j → c = ((List.range j).countP (fun o => decide (wB (lnW X.1.2.1 X.1.1) o a))) → qVM l mX7_wide 0 0 h sz (fun v h' sz' => v = some (vI ((fnd (lnW X.1.2.1 X.1.1) (nl X.1.2.1 X.1.1 + 1) k (nl X.1.2.1 X.1.1 + 1) : Nat) : Int)) ∧ h' = h ∧ sz' = sz) 0 0 h sz 43 [some (.ref r), some (vI x), some (vI y), some (vI z), some (vI q), some (vI (lnW X.1.2.1 X.1.1 a)), some (vI c), some (vI u), x8] [] := by
  obtain ⟨p0, p1, p2, pT, pC, pM⟩ := id hP
  have hw : wf 216 X.1 := wx.1.1.up (by have := wx.1.1.1; omega)
  obtain ⟨⟨⟨w1, w2, w3, w4, w5, w6, w7⟩, w8⟩, -⟩ := id wx
  have wcl := hw.c_le
  have hnl := nl_le X.1.2.1 X.1.1
  have wa := lnW_in (T := X.1.2.1) (n := X.1.1) (k := a) ha
  intro m
  induction m with
  | zero =>
    intro j c u x8 hm hj hu hc
    obtain rfl : j = nl X.1.2.1 X.1.1 + 1 := by omega
    refine qV_iload (pc := 43) 7 dX7_wide_43 rfl ?_
    refine qV_iload_n (pc := 45) 2 dX7_wide_45 rfl rfl ?_
    refine qV_icmp_ge (pc := 46) 94 dX7_wide_46 (by decide) ⟨by omega, by omega⟩ ⟨by omega, by omega⟩ (fun c46 => ?_) (fun c46 => ?_)
    · exact kk _ _ _ hc
    · exfalso; omega
  | succ m ih =>
    intro j c u x8 hm hj hu hc
    have wj := lnW_in (T := X.1.2.1) (n := X.1.1) (k := j) (by omega)
    have e1 := cnt_succ (lnW X.1.2.1 X.1.1) a j
    refine qV_iload (pc := 43) 7 dX7_wide_43 rfl ?_
    refine qV_iload_n (pc := 45) 2 dX7_wide_45 rfl rfl ?_
    refine qV_icmp_ge (pc := 46) 94 dX7_wide_46 (by decide) ⟨by omega, by omega⟩ ⟨by omega, by omega⟩ (fun c46 => ?_) (fun c46 => ?_)
    · exfalso; omega
    · refine qV_aload_n (pc := 49) 0 dX7_wide_49 rfl rfl ?_
      refine qV_iload (pc := 50) 7 dX7_wide_50 rfl ?_
      refine qV_rdV (pc := 52) (m_cellsOf (k := j) ho hs hP hw hu (by omega)) nX7_cellsOf kX7 lk_X7_116 dX7_wide_52 (by first | assumption | exact hU_self _ _ _ | (refine (hU_ne (by omega)).trans ?_; first | assumption | exact hU_self _ _ _ | (refine (hU_ne (by omega)).trans ?_; first | assumption | exact hU_self _ _ _ | (refine (hU_ne (by omega)).trans ?_; first | assumption | exact hU_self _ _ _)))) ⟨le_b rfl, le_b rfl⟩ ⟨le_b rfl, le_b rfl⟩ rfl (le_b rfl) ?_
      refine qV_istore (pc := 55) 8 dX7_wide_55 (le_b rfl) (le_b rfl) rfl ?_
      refine qV_iload (pc := 57) 6 dX7_wide_57 rfl ?_
      refine qV_iload (pc := 59) 8 dX7_wide_59 rfl ?_
      refine qV_iload (pc := 61) 5 dX7_wide_61 rfl ?_
      refine qV_icmp_gt (pc := 63) 80 dX7_wide_63 (by decide) ⟨by omega, by omega⟩ ⟨by omega, by omega⟩ (fun c63 => ?_) (fun c63 => ?_)
      · refine qV_iconst (pc := 80) dX7_wide_80 ?_
        refine qV_goto (pc := 81) 85 dX7_wide_81 (by decide) ?_
        refine qV_iadd (pc := 85) dX7_wide_85 ?_
        refine qV_istore (pc := 86) 6 dX7_wide_86 (le_b rfl) (le_b rfl) rfl ?_
        refine qV_iinc (pc := 88) 7 dX7_wide_88 rfl (le_b rfl) (le_b rfl) rfl ?_
        refine qV_goto (pc := 91) 43 dX7_wide_91 (by decide) ?_
        first
        | exact ih (j + 1) _ _ _ (by omega) (by omega) (by omega) (by rw [e1, if_pos (by omega)]; omega)
        | exact ih (j + 1) _ _ _ (by omega) (by omega) (by omega) (by rw [e1, if_neg (by omega)]; omega)
      · refine qV_iload (pc := 66) 8 dX7_wide_66 rfl ?_
        refine qV_iload (pc := 68) 5 dX7_wide_68 rfl ?_
        refine qV_icmp_ne (pc := 70) 84 dX7_wide_70 (by decide) ⟨by omega, by omega⟩ ⟨by omega, by omega⟩ (fun c70 => ?_) (fun c70 => ?_)
        · refine qV_iconst (pc := 84) dX7_wide_84 ?_
          refine qV_iadd (pc := 85) dX7_wide_85 ?_
          refine qV_istore (pc := 86) 6 dX7_wide_86 (le_b rfl) (le_b rfl) rfl ?_
          refine qV_iinc (pc := 88) 7 dX7_wide_88 rfl (le_b rfl) (le_b rfl) rfl ?_
          refine qV_goto (pc := 91) 43 dX7_wide_91 (by decide) ?_
          first
          | exact ih (j + 1) _ _ _ (by omega) (by omega) (by omega) (by rw [e1, if_pos (by omega)]; omega)
          | exact ih (j + 1) _ _ _ (by omega) (by omega) (by omega) (by rw [e1, if_neg (by omega)]; omega)
        · refine qV_iload (pc := 73) 7 dX7_wide_73 rfl ?_
          refine qV_iload (pc := 75) 4 dX7_wide_75 rfl ?_
          refine qV_icmp_ge (pc := 77) 84 dX7_wide_77 (by decide) ⟨by omega, by omega⟩ ⟨by omega, by omega⟩ (fun c77 => ?_) (fun c77 => ?_)
          · refine qV_iconst (pc := 84) dX7_wide_84 ?_
            refine qV_iadd (pc := 85) dX7_wide_85 ?_
            refine qV_istore (pc := 86) 6 dX7_wide_86 (le_b rfl) (le_b rfl) rfl ?_
            refine qV_iinc (pc := 88) 7 dX7_wide_88 rfl (le_b rfl) (le_b rfl) rfl ?_
            refine qV_goto (pc := 91) 43 dX7_wide_91 (by decide) ?_
            first
            | exact ih (j + 1) _ _ _ (by omega) (by omega) (by omega) (by rw [e1, if_pos (by omega)]; omega)
            | exact ih (j + 1) _ _ _ (by omega) (by omega) (by omega) (by rw [e1, if_neg (by omega)]; omega)
          · refine qV_iconst (pc := 80) dX7_wide_80 ?_
            refine qV_goto (pc := 81) 85 dX7_wide_81 (by decide) ?_
            refine qV_iadd (pc := 85) dX7_wide_85 ?_
            refine qV_istore (pc := 86) 6 dX7_wide_86 (le_b rfl) (le_b rfl) rfl ?_
            refine qV_iinc (pc := 88) 7 dX7_wide_88 rfl (le_b rfl) (le_b rfl) rfl ?_
            refine qV_goto (pc := 91) 43 dX7_wide_91 (by decide) ?_
            first
            | exact ih (j + 1) _ _ _ (by omega) (by omega) (by omega) (by rw [e1, if_pos (by omega)]; omega)
            | exact ih (j + 1) _ _ _ (by omega) (by omega) (by omega) (by rw [e1, if_neg (by omega)]; omega)
set_option maxRecDepth 100000 in
set_option maxHeartbeats 4000000 in
theorem wide_outer {k : Nat} {x y : Int} (ho : h r = some (rob r kn ty st)) (hs : h (r + 1) = some (iA 0 541 s)) (hP : SP s X.1) (wx : wfX X) (hxk : x = k) (hk : k ≤ 5000) (hy : y = (nl X.1.2.1 X.1.1 : Int) + 1) : ∀ (m a : Nat) (q z : Int) (x5 x6 x7 x8 : Option Value), (nl X.1.2.1 X.1.1 + 1) - a = m → a ≤ (nl X.1.2.1 X.1.1 + 1) → q = a → z = ((fnd (lnW X.1.2.1 X.1.1) (nl X.1.2.1 X.1.1 + 1) k a : Nat) : Int) → qVM l mX7_wide 0 0 h sz (fun v h' sz' => v = some (vI ((fnd (lnW X.1.2.1 X.1.1) (nl X.1.2.1 X.1.1 + 1) k (nl X.1.2.1 X.1.1 + 1) : Nat) : Int)) ∧ h' = h ∧ sz' = sz) 0 0 h sz 23 [some (.ref r), some (vI x), some (vI y), some (vI z), some (vI q), x5, x6, x7, x8] [] := by
  obtain ⟨p0, p1, p2, pT, pC, pM⟩ := id hP
  have hw : wf 216 X.1 := wx.1.1.up (by have := wx.1.1.1; omega)
  obtain ⟨⟨⟨w1, w2, w3, w4, w5, w6, w7⟩, w8⟩, -⟩ := id wx
  have wcl := hw.c_le
  have hnl := nl_le X.1.2.1 X.1.1
  intro m
  induction m with
  | zero =>
    intro a q z x5 x6 x7 x8 hm ha hq hz
    obtain rfl : a = nl X.1.2.1 X.1.1 + 1 := by omega
    refine qV_iload (pc := 23) 4 dX7_wide_23 rfl ?_
    refine qV_iload_n (pc := 25) 2 dX7_wide_25 rfl rfl ?_
    refine qV_icmp_ge (pc := 26) 113 dX7_wide_26 (by decide) ⟨by omega, by omega⟩ ⟨by omega, by omega⟩ (fun c26 => ?_) (fun c26 => ?_)
    · refine qV_iload_n (pc := 113) 3 dX7_wide_113 rfl rfl ?_
      refine qV_iret (pc := 114) dX7_wide_114 rfl (le_b rfl) (le_b rfl) ?_
      exact ⟨by rw [hz], rfl, rfl⟩
    · exfalso; omega
  | succ m ih =>
    intro a q z x5 x6 x7 x8 hm ha hq hz
    have hle := cnt_le (lnW X.1.2.1 X.1.1) a (nl X.1.2.1 X.1.1 + 1)
    refine qV_iload (pc := 23) 4 dX7_wide_23 rfl ?_
    refine qV_iload_n (pc := 25) 2 dX7_wide_25 rfl rfl ?_
    refine qV_icmp_ge (pc := 26) 113 dX7_wide_26 (by decide) ⟨by omega, by omega⟩ ⟨by omega, by omega⟩ (fun c26 => ?_) (fun c26 => ?_)
    · exfalso; omega
    · refine qV_aload_n (pc := 29) 0 dX7_wide_29 rfl rfl ?_
      refine qV_iload (pc := 30) 4 dX7_wide_30 rfl ?_
      refine qV_rdV (pc := 32) (m_cellsOf (k := a) ho hs hP hw hq (by omega)) nX7_cellsOf kX7 lk_X7_116 dX7_wide_32 (by first | assumption | exact hU_self _ _ _ | (refine (hU_ne (by omega)).trans ?_; first | assumption | exact hU_self _ _ _ | (refine (hU_ne (by omega)).trans ?_; first | assumption | exact hU_self _ _ _ | (refine (hU_ne (by omega)).trans ?_; first | assumption | exact hU_self _ _ _)))) ⟨le_b rfl, le_b rfl⟩ ⟨le_b rfl, le_b rfl⟩ rfl (le_b rfl) ?_
      refine qV_istore (pc := 35) 5 dX7_wide_35 (le_b rfl) (le_b rfl) rfl ?_
      refine qV_iconst (pc := 37) dX7_wide_37 ?_
      refine qV_istore (pc := 38) 6 dX7_wide_38 (le_b rfl) (le_b rfl) rfl ?_
      refine qV_iconst (pc := 40) dX7_wide_40 ?_
      refine qV_istore (pc := 41) 7 dX7_wide_41 (le_b rfl) (le_b rfl) rfl ?_
      refine wide_inner (k := k) (a := a) ho hs hP wx (by omega) hq hy (fun c u x8 hc => ?_) (nl X.1.2.1 X.1.1 + 1) 0 _ _ _ (by omega) (by omega) rfl (by simp)
      refine qV_iload (pc := 94) 6 dX7_wide_94 rfl ?_
      refine qV_iload_n (pc := 96) 1 dX7_wide_96 rfl rfl ?_
      refine qV_icmp_ne (pc := 97) 105 dX7_wide_97 (by decide) ⟨by omega, by omega⟩ ⟨by omega, by omega⟩ (fun c97 => ?_) (fun c97 => ?_)
      · refine qV_iload_n (pc := 105) 3 dX7_wide_105 rfl rfl ?_
        refine qV_istore_n (pc := 106) 3 dX7_wide_106 rfl (le_b rfl) (le_b rfl) rfl ?_
        refine qV_iinc (pc := 107) 4 dX7_wide_107 rfl (le_b rfl) (le_b rfl) rfl ?_
        refine qV_goto (pc := 110) 23 dX7_wide_110 (by decide) ?_
        first
        | exact ih (a + 1) _ _ _ _ _ _ (by omega) (by omega) (by omega) (by simp only [fnd]; rw [if_neg (by omega)]; exact hz)
        | exact ih (a + 1) _ _ _ _ _ _ (by omega) (by omega) (by omega) (by simp only [fnd]; rw [if_pos (by omega)]; exact hq)
      · refine qV_iload (pc := 100) 4 dX7_wide_100 rfl ?_
        refine qV_goto (pc := 102) 106 dX7_wide_102 (by decide) ?_
        refine qV_istore_n (pc := 106) 3 dX7_wide_106 rfl (le_b rfl) (le_b rfl) rfl ?_
        refine qV_iinc (pc := 107) 4 dX7_wide_107 rfl (le_b rfl) (le_b rfl) rfl ?_
        refine qV_goto (pc := 110) 23 dX7_wide_110 (by decide) ?_
        first
        | exact ih (a + 1) _ _ _ _ _ _ (by omega) (by omega) (by omega) (by simp only [fnd]; rw [if_neg (by omega)]; exact hz)
        | exact ih (a + 1) _ _ _ _ _ _ (by omega) (by omega) (by omega) (by simp only [fnd]; rw [if_pos (by omega)]; exact hq)
set_option maxRecDepth 100000 in
set_option maxHeartbeats 4000000 in
theorem r_wide {x : Int} (hx : iR x) (ho : h r = some (rob r kn ty st)) (hs : h (r + 1) = some (iA 0 541 s)) (hP : SP s X.1) (wx : wfX X) : qRd l mX7_wide [.ref r, vI x] h sz (vI (oWide X x)) := by
  obtain ⟨p0, p1, p2, pT, pC, pM⟩ := id hP
  have hw : wf 216 X.1 := wx.1.1.up (by have := wx.1.1.1; omega)
  obtain ⟨⟨⟨w1, w2, w3, w4, w5, w6, w7⟩, w8⟩, -⟩ := id wx
  have wcl := hw.c_le
  have hnl := nl_le X.1.2.1 X.1.1
  obtain ⟨x1, x2⟩ := hx
  have e9 : (nl X.1.2.1 X.1.1 : Int) + 1 - 1 = nl X.1.2.1 X.1.1 := by omega
  refine qC.of 7 (by decide) (le_b rfl) ?_
  refine qV_aload_n (pc := 0) 0 dX7_wide_0 rfl rfl ?_
  refine qV_rdV (pc := 1) (m_lines ho hs hP hw) nX7_lines kX7 lk_X7_106 dX7_wide_1 (by first | assumption | exact hU_self _ _ _ | (refine (hU_ne (by omega)).trans ?_; first | assumption | exact hU_self _ _ _ | (refine (hU_ne (by omega)).trans ?_; first | assumption | exact hU_self _ _ _ | (refine (hU_ne (by omega)).trans ?_; first | assumption | exact hU_self _ _ _)))) ⟨le_b rfl, le_b rfl⟩ ⟨le_b rfl, le_b rfl⟩ rfl (le_b rfl) ?_
  refine qV_istore_n (pc := 4) 2 dX7_wide_4 rfl (le_b rfl) (le_b rfl) rfl ?_
  refine qV_iload_n (pc := 5) 1 dX7_wide_5 rfl rfl ?_
  refine qV_iconst (pc := 6) dX7_wide_6 ?_
  refine qV_iload_n (pc := 7) 2 dX7_wide_7 rfl rfl ?_
  refine qV_iconst (pc := 8) dX7_wide_8 ?_
  refine qV_isub (pc := 9) dX7_wide_9 ?_
  rw [e9]
  refine qV_rdS (pc := 10) (m_in ⟨x1, x2⟩ ⟨by omega, by omega⟩ ⟨by omega, by omega⟩) nX7_in lk_X7_38 dX7_wide_10 ⟨le_b rfl, le_b rfl⟩ ⟨le_b rfl, le_b rfl⟩ rfl (le_b rfl) ?_
  refine qV_ifneB (pc := 13) 18 dX7_wide_13 (by decide) (fun c13 => ?_) (fun c13 => ?_)
  · refine qV_iconst (pc := 18) dX7_wide_18 ?_
    refine qV_istore_n (pc := 19) 3 dX7_wide_19 rfl (le_b rfl) (le_b rfl) rfl ?_
    refine qV_iconst (pc := 20) dX7_wide_20 ?_
    refine qV_istore (pc := 21) 4 dX7_wide_21 (le_b rfl) (le_b rfl) rfl ?_
    have e0 : oWide X x = ((fnd (lnW X.1.2.1 X.1.1) (nl X.1.2.1 X.1.1 + 1) x.toNat (nl X.1.2.1 X.1.1 + 1) : Nat) : Int) := if_neg (by omega)
    rw [e0]
    exact wide_outer (k := x.toNat) ho hs hP wx (by omega) (by omega) rfl (nl X.1.2.1 X.1.1 + 1) 0 _ _ _ _ _ _ (by omega) (by omega) rfl rfl
  · have e0 : oWide X x = -1 := if_pos (by omega)
    refine qV_iconst (pc := 16) dX7_wide_16 ?_
    refine qV_iret (pc := 17) dX7_wide_17 rfl (le_b rfl) (le_b rfl) ?_
    exact ⟨by rw [e0], rfl, rfl⟩
set_option maxRecDepth 100000 in
set_option maxHeartbeats 4000000 in
theorem chunk_wp {b e : Nat} {x w y3 y4 : Int} (ho : h r = some (rob r kn ty st)) (hs : h (r + 1) = some (iA 0 541 s)) (hP : SP s X.1) (wx : wfX X) (hbe : b + e ≤ X.1.1) (h4 : y4 = (b + e : Nat)) (e0 : oChunk X x w = (wpr X.1.2.1 b e).2) : ∀ (m d : Nat) (q z c : Int), e - d = m → d ≤ e → q = (b + d : Nat) → c = (wpr X.1.2.1 b d).1 → z = (wpr X.1.2.1 b d).2 → qVM l mX7_chunk 0 0 h sz (fun v h' sz' => v = some (vI (oChunk X x w)) ∧ h' = h ∧ sz' = sz) 0 0 h sz 95 [some (.ref r), some (vI x), some (vI w), some (vI y3), some (vI y4), some (vI z), some (vI c), some (vI q)] [] := by
  obtain ⟨p0, p1, p2, pT, pC, pM⟩ := id hP
  have hw : wf 216 X.1 := wx.1.1.up (by have := wx.1.1.1; omega)
  obtain ⟨⟨⟨w1, w2, w3, w4, w5, w6, w7⟩, w8⟩, -⟩ := id wx
  have wcl := hw.c_le
  have hnl := nl_le X.1.2.1 X.1.1
  intro m
  induction m with
  | zero =>
    intro d q z c hm hd hq hc hz
    obtain rfl : d = e := by omega
    refine qV_iload (pc := 95) 7 dX7_chunk_95 rfl ?_
    refine qV_iload (pc := 97) 4 dX7_chunk_97 rfl ?_
    refine qV_icmp_ge (pc := 99) 154 dX7_chunk_99 (by decide) ⟨by omega, by omega⟩ ⟨by omega, by omega⟩ (fun c99 => ?_) (fun c99 => ?_)
    · refine qV_iload (pc := 154) 5 dX7_chunk_154 rfl ?_
      refine qV_iret (pc := 156) dX7_chunk_156 rfl (le_b rfl) (le_b rfl) ?_
      exact ⟨by rw [e0, hz], rfl, rfl⟩
    · exfalso; omega
  | succ m ih =>
    intro d q z c hm hd hq hc hz
    have t := w2 (b + d) (by omega)
    have i1 := wpr_in X.1.2.1 b d
    have hh := hasM_in (X.1.2.1 (b + d)) 3
    refine qV_iload (pc := 95) 7 dX7_chunk_95 rfl ?_
    refine qV_iload (pc := 97) 4 dX7_chunk_97 rfl ?_
    refine qV_icmp_ge (pc := 99) 154 dX7_chunk_99 (by decide) ⟨by omega, by omega⟩ ⟨by omega, by omega⟩ (fun c99 => ?_) (fun c99 => ?_)
    · exfalso; omega
    · refine qV_aload_n (pc := 102) 0 dX7_chunk_102 rfl rfl ?_
      refine qV_iload (pc := 103) 7 dX7_chunk_103 rfl ?_
      refine qV_rdV (pc := 105) (m_byteAt (j := b + d) ho hs hP hw hq (by omega)) nX7_byteAt kX7 lk_X7_89 dX7_chunk_105 (by first | assumption | exact hU_self _ _ _ | (refine (hU_ne (by omega)).trans ?_; first | assumption | exact hU_self _ _ _ | (refine (hU_ne (by omega)).trans ?_; first | assumption | exact hU_self _ _ _ | (refine (hU_ne (by omega)).trans ?_; first | assumption | exact hU_self _ _ _)))) ⟨le_b rfl, le_b rfl⟩ ⟨le_b rfl, le_b rfl⟩ rfl (le_b rfl) ?_
      refine qV_bipush (pc := 108) dX7_chunk_108 rfl ?_
      refine qV_icmp_ne (pc := 110) 117 dX7_chunk_110 (by decide) ⟨by omega, by omega⟩ ⟨by omega, by omega⟩ (fun c110 => ?_) (fun c110 => ?_)
      · refine qV_iload (pc := 117) 6 dX7_chunk_117 rfl ?_
        refine qV_aload_n (pc := 119) 0 dX7_chunk_119 rfl rfl ?_
        refine qV_iload (pc := 120) 7 dX7_chunk_120 rfl ?_
        refine qV_rdV (pc := 122) (m_byteAt (j := b + d) ho hs hP hw hq (by omega)) nX7_byteAt kX7 lk_X7_89 dX7_chunk_122 (by first | assumption | exact hU_self _ _ _ | (refine (hU_ne (by omega)).trans ?_; first | assumption | exact hU_self _ _ _ | (refine (hU_ne (by omega)).trans ?_; first | assumption | exact hU_self _ _ _ | (refine (hU_ne (by omega)).trans ?_; first | assumption | exact hU_self _ _ _)))) ⟨le_b rfl, le_b rfl⟩ ⟨le_b rfl, le_b rfl⟩ rfl (le_b rfl) ?_
        refine qV_iconst (pc := 125) dX7_chunk_125 ?_
        refine qV_rdS (pc := 126) (m_has (w := 3) ⟨by omega, by omega⟩ rfl (by omega)) nX7_has lk_X7_92 dX7_chunk_126 ⟨le_b rfl, le_b rfl⟩ ⟨le_b rfl, le_b rfl⟩ rfl (le_b rfl) ?_
        refine qV_iadd (pc := 129) dX7_chunk_129 ?_
        refine qV_istore (pc := 130) 6 dX7_chunk_130 (le_b rfl) (le_b rfl) rfl ?_
        refine qV_iload (pc := 132) 6 dX7_chunk_132 rfl ?_
        refine qV_iload (pc := 134) 5 dX7_chunk_134 rfl ?_
        refine qV_icmp_le (pc := 136) 144 dX7_chunk_136 (by decide) ⟨by omega, by omega⟩ ⟨by omega, by omega⟩ (fun c136 => ?_) (fun c136 => ?_)
        · refine qV_iload (pc := 144) 5 dX7_chunk_144 rfl ?_
          refine qV_istore (pc := 146) 5 dX7_chunk_146 (le_b rfl) (le_b rfl) rfl ?_
          refine qV_iinc (pc := 148) 7 dX7_chunk_148 rfl (le_b rfl) (le_b rfl) rfl ?_
          refine qV_goto (pc := 151) 95 dX7_chunk_151 (by decide) ?_
          first
          | exact ih (d + 1) _ _ _ (by omega) (by omega) (by omega) (by simp only [wpr]; rw [if_neg c110]; omega) (by simp only [wpr]; rw [if_neg c110]; omega)
          | exact ih (d + 1) _ _ _ (by omega) (by omega) (by omega) (by simp only [wpr]; rw [if_pos c110]) (by simp only [wpr]; rw [if_pos c110]; omega)
        · refine qV_iload (pc := 139) 6 dX7_chunk_139 rfl ?_
          refine qV_goto (pc := 141) 146 dX7_chunk_141 (by decide) ?_
          refine qV_istore (pc := 146) 5 dX7_chunk_146 (le_b rfl) (le_b rfl) rfl ?_
          refine qV_iinc (pc := 148) 7 dX7_chunk_148 rfl (le_b rfl) (le_b rfl) rfl ?_
          refine qV_goto (pc := 151) 95 dX7_chunk_151 (by decide) ?_
          first
          | exact ih (d + 1) _ _ _ (by omega) (by omega) (by omega) (by simp only [wpr]; rw [if_neg c110]; omega) (by simp only [wpr]; rw [if_neg c110]; omega)
          | exact ih (d + 1) _ _ _ (by omega) (by omega) (by omega) (by simp only [wpr]; rw [if_pos c110]) (by simp only [wpr]; rw [if_pos c110]; omega)
      · refine qV_iconst (pc := 113) dX7_chunk_113 ?_
        refine qV_goto (pc := 114) 130 dX7_chunk_114 (by decide) ?_
        refine qV_istore (pc := 130) 6 dX7_chunk_130 (le_b rfl) (le_b rfl) rfl ?_
        refine qV_iload (pc := 132) 6 dX7_chunk_132 rfl ?_
        refine qV_iload (pc := 134) 5 dX7_chunk_134 rfl ?_
        refine qV_icmp_le (pc := 136) 144 dX7_chunk_136 (by decide) ⟨by omega, by omega⟩ ⟨by omega, by omega⟩ (fun c136 => ?_) (fun c136 => ?_)
        · refine qV_iload (pc := 144) 5 dX7_chunk_144 rfl ?_
          refine qV_istore (pc := 146) 5 dX7_chunk_146 (le_b rfl) (le_b rfl) rfl ?_
          refine qV_iinc (pc := 148) 7 dX7_chunk_148 rfl (le_b rfl) (le_b rfl) rfl ?_
          refine qV_goto (pc := 151) 95 dX7_chunk_151 (by decide) ?_
          first
          | exact ih (d + 1) _ _ _ (by omega) (by omega) (by omega) (by simp only [wpr]; rw [if_neg c110]; omega) (by simp only [wpr]; rw [if_neg c110]; omega)
          | exact ih (d + 1) _ _ _ (by omega) (by omega) (by omega) (by simp only [wpr]; rw [if_pos c110]) (by simp only [wpr]; rw [if_pos c110]; omega)
        · refine qV_iload (pc := 139) 6 dX7_chunk_139 rfl ?_
          refine qV_goto (pc := 141) 146 dX7_chunk_141 (by decide) ?_
          refine qV_istore (pc := 146) 5 dX7_chunk_146 (le_b rfl) (le_b rfl) rfl ?_
          refine qV_iinc (pc := 148) 7 dX7_chunk_148 rfl (le_b rfl) (le_b rfl) rfl ?_
          refine qV_goto (pc := 151) 95 dX7_chunk_151 (by decide) ?_
          first
          | exact ih (d + 1) _ _ _ (by omega) (by omega) (by omega) (by simp only [wpr]; rw [if_neg c110]; omega) (by simp only [wpr]; rw [if_neg c110]; omega)
          | exact ih (d + 1) _ _ _ (by omega) (by omega) (by omega) (by simp only [wpr]; rw [if_pos c110]) (by simp only [wpr]; rw [if_pos c110]; omega)
set_option maxRecDepth 100000 in
set_option maxHeartbeats 4000000 in
theorem chunk_sum {x w : Int} (ho : h r = some (rob r kn ty st)) (hs : h (r + 1) = some (iA 0 541 s)) (hP : SP s X.1) (wx : wfX X) (hx0 : 0 ≤ x) (hxc : x < X.1.2.2.1) (hw0 : 0 ≤ w ∧ w ≤ 4) : ∀ (m j : Nat) (q z : Int) (x5 x6 x7 : Option Value), x.toNat - j = m → j ≤ x.toNat → q = j → z = csum X.1.2.2.2.1 j → qVM l mX7_chunk 0 0 h sz (fun v h' sz' => v = some (vI (oChunk X x w)) ∧ h' = h ∧ sz' = sz) 0 0 h sz 32 [some (.ref r), some (vI x), some (vI w), some (vI z), some (vI q), x5, x6, x7] [] := by
  obtain ⟨p0, p1, p2, pT, pC, pM⟩ := id hP
  have hw : wf 216 X.1 := wx.1.1.up (by have := wx.1.1.1; omega)
  obtain ⟨⟨⟨w1, w2, w3, w4, w5, w6, w7⟩, w8⟩, -⟩ := id wx
  have wcl := hw.c_le
  have hnl := nl_le X.1.2.1 X.1.1
  have hC : ∀ j, j < X.1.2.2.1 → 0 ≤ X.1.2.2.2.1 j := fun j hj => by have := w3 j hj; omega
  intro m
  induction m with
  | zero =>
    intro j q z x5 x6 x7 hm hj hq hz
    obtain rfl : j = x.toNat := by omega
    have s1 := csum_nn hC (b := x.toNat) (by omega)
    have s2 := csum_mono hC (a := x.toNat + 1) (b := X.1.2.2.1) (by omega) (Nat.le_refl _)
    have s3 := csum_succ X.1.2.2.2.1 x.toNat
    have s4 := hC x.toNat (by omega)
    have s5 := pC x.toNat (by omega)
    refine qV_iload (pc := 32) 4 dX7_chunk_32 rfl ?_
    refine qV_iload_n (pc := 34) 1 dX7_chunk_34 rfl rfl ?_
    refine qV_icmp_ge (pc := 35) 58 dX7_chunk_35 (by decide) ⟨by omega, by omega⟩ ⟨by omega, by omega⟩ (fun c35 => ?_) (fun c35 => ?_)
    · refine qV_iload_n (pc := 58) 3 dX7_chunk_58 rfl rfl ?_
      refine qV_aload_n (pc := 59) 0 dX7_chunk_59 rfl rfl ?_
      refine qV_get (pc := 60) kX7 0 (le_b rfl) lk_X7_7 rfl dX7_chunk_60 (by first | assumption | exact hU_self _ _ _ | (refine (hU_ne (by omega)).trans ?_; first | assumption | exact hU_self _ _ _ | (refine (hU_ne (by omega)).trans ?_; first | assumption | exact hU_self _ _ _ | (refine (hU_ne (by omega)).trans ?_; first | assumption | exact hU_self _ _ _)))) (by exact rfl) ?_
      refine qV_sipush (pc := 63) dX7_chunk_63 rfl ?_
      refine qV_iload_n (pc := 66) 1 dX7_chunk_66 rfl rfl ?_
      refine qV_iadd (pc := 67) dX7_chunk_67 ?_
      refine qV_ialdN (pc := 68) (259 + x.toNat) dX7_chunk_68 (by first | assumption | exact hU_self _ _ _ | (refine (hU_ne (by omega)).trans ?_; first | assumption | exact hU_self _ _ _ | (refine (hU_ne (by omega)).trans ?_; first | assumption | exact hU_self _ _ _ | (refine (hU_ne (by omega)).trans ?_; first | assumption | exact hU_self _ _ _)))) (by omega) (by omega) s5 ?_
      refine qV_iadd (pc := 69) dX7_chunk_69 ?_
      refine qV_istore (pc := 70) 4 dX7_chunk_70 (le_b rfl) (le_b rfl) rfl ?_
      refine qV_iload_n (pc := 72) 2 dX7_chunk_72 rfl rfl ?_
      refine qV_iconst (pc := 73) dX7_chunk_73 ?_
      refine qV_icmp_ge (pc := 74) 86 dX7_chunk_74 (by decide) ⟨by omega, by omega⟩ ⟨by omega, by omega⟩ (fun c74 => ?_) (fun c74 => ?_)
      · refine qV_iconst (pc := 86) dX7_chunk_86 ?_
        refine qV_istore (pc := 87) 5 dX7_chunk_87 (le_b rfl) (le_b rfl) rfl ?_
        refine qV_iconst (pc := 89) dX7_chunk_89 ?_
        refine qV_istore (pc := 90) 6 dX7_chunk_90 (le_b rfl) (le_b rfl) rfl ?_
        refine qV_iload_n (pc := 92) 3 dX7_chunk_92 rfl rfl ?_
        refine qV_istore (pc := 93) 7 dX7_chunk_93 (le_b rfl) (le_b rfl) rfl ?_
        have e0 : oChunk X x w = (wpr X.1.2.1 (csum X.1.2.2.2.1 x.toNat).toNat (X.1.2.2.2.1 x.toNat).toNat).2 := by simp only [oChunk]; rw [if_neg (by omega), if_pos (by omega)]
        exact chunk_wp ho hs hP wx (by omega) (by omega) e0 (X.1.2.2.2.1 x.toNat).toNat 0 _ _ _ (by omega) (by omega) (by omega) rfl rfl
      · have e0 : oChunk X x w = measM X.1.2.1 w.toNat (csum X.1.2.2.2.1 (x.toNat + 1)).toNat - measM X.1.2.1 w.toNat (csum X.1.2.2.2.1 x.toNat).toNat := by simp only [oChunk]; rw [if_neg (by omega), if_neg (by omega)]
        refine qV_aload_n (pc := 77) 0 dX7_chunk_77 rfl rfl ?_
        refine qV_iload_n (pc := 78) 3 dX7_chunk_78 rfl rfl ?_
        refine qV_iload (pc := 79) 4 dX7_chunk_79 rfl ?_
        refine qV_iload_n (pc := 81) 2 dX7_chunk_81 rfl rfl ?_
        refine qV_rdV (pc := 82) (m_measure (w := w.toNat) (a := (csum X.1.2.2.2.1 x.toNat).toNat) (b := (csum X.1.2.2.2.1 (x.toNat + 1)).toNat) ho hs hP hw (by omega) (by omega) (by omega) (by omega) (by omega) (by omega)) nX7_measure kX7 lk_X7_96 dX7_chunk_82 (by first | assumption | exact hU_self _ _ _ | (refine (hU_ne (by omega)).trans ?_; first | assumption | exact hU_self _ _ _ | (refine (hU_ne (by omega)).trans ?_; first | assumption | exact hU_self _ _ _ | (refine (hU_ne (by omega)).trans ?_; first | assumption | exact hU_self _ _ _)))) ⟨le_b rfl, le_b rfl⟩ ⟨le_b rfl, le_b rfl⟩ rfl (le_b rfl) ?_
        refine qV_iret (pc := 85) dX7_chunk_85 rfl (le_b rfl) (le_b rfl) ?_
        exact ⟨by rw [e0], rfl, rfl⟩
    · exfalso; omega
  | succ m ih =>
    intro j q z x5 x6 x7 hm hj hq hz
    have s5 := pC j (by omega)
    refine qV_iload (pc := 32) 4 dX7_chunk_32 rfl ?_
    refine qV_iload_n (pc := 34) 1 dX7_chunk_34 rfl rfl ?_
    refine qV_icmp_ge (pc := 35) 58 dX7_chunk_35 (by decide) ⟨by omega, by omega⟩ ⟨by omega, by omega⟩ (fun c35 => ?_) (fun c35 => ?_)
    · exfalso; omega
    · refine qV_iload_n (pc := 38) 3 dX7_chunk_38 rfl rfl ?_
      refine qV_aload_n (pc := 39) 0 dX7_chunk_39 rfl rfl ?_
      refine qV_get (pc := 40) kX7 0 (le_b rfl) lk_X7_7 rfl dX7_chunk_40 (by first | assumption | exact hU_self _ _ _ | (refine (hU_ne (by omega)).trans ?_; first | assumption | exact hU_self _ _ _ | (refine (hU_ne (by omega)).trans ?_; first | assumption | exact hU_self _ _ _ | (refine (hU_ne (by omega)).trans ?_; first | assumption | exact hU_self _ _ _)))) (by exact rfl) ?_
      refine qV_sipush (pc := 43) dX7_chunk_43 rfl ?_
      refine qV_iload (pc := 46) 4 dX7_chunk_46 rfl ?_
      refine qV_iadd (pc := 48) dX7_chunk_48 ?_
      refine qV_ialdN (pc := 49) (259 + j) dX7_chunk_49 (by first | assumption | exact hU_self _ _ _ | (refine (hU_ne (by omega)).trans ?_; first | assumption | exact hU_self _ _ _ | (refine (hU_ne (by omega)).trans ?_; first | assumption | exact hU_self _ _ _ | (refine (hU_ne (by omega)).trans ?_; first | assumption | exact hU_self _ _ _)))) (by omega) (by omega) s5 ?_
      refine qV_iadd (pc := 50) dX7_chunk_50 ?_
      refine qV_istore_n (pc := 51) 3 dX7_chunk_51 rfl (le_b rfl) (le_b rfl) rfl ?_
      refine qV_iinc (pc := 52) 4 dX7_chunk_52 rfl (le_b rfl) (le_b rfl) rfl ?_
      refine qV_goto (pc := 55) 32 dX7_chunk_55 (by decide) ?_
      exact ih (j + 1) _ _ _ _ _ (by omega) (by omega) (by omega) (by rw [hz]; rfl)
set_option maxRecDepth 100000 in
set_option maxHeartbeats 4000000 in
theorem r_chunk {x w : Int} (hx : iR x) (hw0 : iR w) (ho : h r = some (rob r kn ty st)) (hs : h (r + 1) = some (iA 0 541 s)) (hP : SP s X.1) (wx : wfX X) : qRd l mX7_chunk [.ref r, vI x, vI w] h sz (vI (oChunk X x w)) := by
  obtain ⟨p0, p1, p2, pT, pC, pM⟩ := id hP
  have hw : wf 216 X.1 := wx.1.1.up (by have := wx.1.1.1; omega)
  obtain ⟨⟨⟨w1, w2, w3, w4, w5, w6, w7⟩, w8⟩, -⟩ := id wx
  have wcl := hw.c_le
  have hnl := nl_le X.1.2.1 X.1.1
  obtain ⟨x1, x2⟩ := hx
  obtain ⟨q1, q2⟩ := hw0
  refine qC.of 5 (by decide) (le_b rfl) ?_
  refine qV_iload_n (pc := 0) 1 dX7_chunk_0 rfl rfl ?_
  refine qV_iconst (pc := 1) dX7_chunk_1 ?_
  refine qV_aload_n (pc := 2) 0 dX7_chunk_2 rfl rfl ?_
  refine qV_get (pc := 3) kX7 0 (le_b rfl) lk_X7_7 rfl dX7_chunk_3 (by first | assumption | exact hU_self _ _ _ | (refine (hU_ne (by omega)).trans ?_; first | assumption | exact hU_self _ _ _ | (refine (hU_ne (by omega)).trans ?_; first | assumption | exact hU_self _ _ _ | (refine (hU_ne (by omega)).trans ?_; first | assumption | exact hU_self _ _ _)))) (by exact rfl) ?_
  refine qV_iconst (pc := 6) dX7_chunk_6 ?_
  refine qV_ialdN (pc := 7) (1) dX7_chunk_7 (by first | assumption | exact hU_self _ _ _ | (refine (hU_ne (by omega)).trans ?_; first | assumption | exact hU_self _ _ _ | (refine (hU_ne (by omega)).trans ?_; first | assumption | exact hU_self _ _ _ | (refine (hU_ne (by omega)).trans ?_; first | assumption | exact hU_self _ _ _)))) (by omega) (by omega) p1 ?_
  refine qV_iconst (pc := 8) dX7_chunk_8 ?_
  refine qV_isub (pc := 9) dX7_chunk_9 ?_
  refine qV_rdS (pc := 10) (m_in ⟨x1, x2⟩ ⟨by omega, by omega⟩ ⟨by omega, by omega⟩) nX7_in lk_X7_38 dX7_chunk_10 ⟨le_b rfl, le_b rfl⟩ ⟨le_b rfl, le_b rfl⟩ rfl (le_b rfl) ?_
  refine qV_ifeqB (pc := 13) 25 dX7_chunk_13 (by decide) (fun c13 => ?_) (fun c13 => ?_)
  · have e0 : oChunk X x w = -1 := if_pos (by omega)
    refine qV_iconst (pc := 25) dX7_chunk_25 ?_
    refine qV_iret (pc := 26) dX7_chunk_26 rfl (le_b rfl) (le_b rfl) ?_
    exact ⟨by rw [e0], rfl, rfl⟩
  · refine qV_iload_n (pc := 16) 2 dX7_chunk_16 rfl rfl ?_
    refine qV_iconst (pc := 17) dX7_chunk_17 ?_
    refine qV_iconst (pc := 18) dX7_chunk_18 ?_
    refine qV_rdS (pc := 19) (m_in ⟨q1, q2⟩ ⟨by decide, by decide⟩ ⟨by decide, by decide⟩) nX7_in lk_X7_38 dX7_chunk_19 ⟨le_b rfl, le_b rfl⟩ ⟨le_b rfl, le_b rfl⟩ rfl (le_b rfl) ?_
    refine qV_ifneB (pc := 22) 27 dX7_chunk_22 (by decide) (fun c22 => ?_) (fun c22 => ?_)
    · refine qV_iconst (pc := 27) dX7_chunk_27 ?_
      refine qV_istore_n (pc := 28) 3 dX7_chunk_28 rfl (le_b rfl) (le_b rfl) rfl ?_
      refine qV_iconst (pc := 29) dX7_chunk_29 ?_
      refine qV_istore (pc := 30) 4 dX7_chunk_30 (le_b rfl) (le_b rfl) rfl ?_
      exact chunk_sum ho hs hP wx (by omega) (by omega) (by omega) x.toNat 0 _ _ _ _ _ (by omega) (by omega) rfl rfl
    · have e0 : oChunk X x w = -1 := if_pos (by omega)
      refine qV_iconst (pc := 25) dX7_chunk_25 ?_
      refine qV_iret (pc := 26) dX7_chunk_26 rfl (le_b rfl) (le_b rfl) ?_
      exact ⟨by rw [e0], rfl, rfl⟩
theorem mq_in {P : PG} {B i : Nat} (h : wf B P) (hB : P.1 ≤ 216) (hi : i < 26) : -1 ≤ mq (P.2.2.2.2.1 i) ∧ mq (P.2.2.2.2.1 i) ≤ 5000 ∧ (mq (P.2.2.2.2.1 i) < 0 ↔ P.2.2.2.2.1 i = -9) ∧ (0 ≤ mq (P.2.2.2.2.1 i) → mq (P.2.2.2.2.1 i) = P.2.2.2.2.1 i) := by
  have := h.2.2.2.2.1 i hi
  simp only [mq]
  split <;> omega
set_option maxRecDepth 100000 in
set_option maxHeartbeats 4000000 in
theorem r_mark {x : Int} (hx : iR x) (ho : h r = some (rob r kn ty st)) (hs : h (r + 1) = some (iA 0 541 s)) (hP : SP s X.1) (wx : wfX X) : qRd l mX7_mark [.ref r, vI x] h sz (vI (oMark X x)) := by
  obtain ⟨p0, p1, p2, pT, pC, pM⟩ := id hP
  have hw : wf 216 X.1 := wx.1.1.up (by have := wx.1.1.1; omega)
  obtain ⟨⟨⟨w1, w2, w3, w4, w5, w6, w7⟩, w8⟩, -⟩ := id wx
  have wcl := hw.c_le
  have hnl := nl_le X.1.2.1 X.1.1
  obtain ⟨x1, x2⟩ := hx
  refine qC.of 0 (by decide) (le_b rfl) ?_
  refine qV_iload_n (pc := 0) 1 dX7_mark_0 rfl rfl ?_
  refine qV_rdS (pc := 1) (m_isName ⟨x1, x2⟩) nX7_isName lk_X7_119 dX7_mark_1 ⟨le_b rfl, le_b rfl⟩ ⟨le_b rfl, le_b rfl⟩ rfl (le_b rfl) ?_
  refine qV_ifeqB (pc := 4) 26 dX7_mark_4 (by decide) (fun c4 => ?_) (fun c4 => ?_)
  · have e0 : oMark X x = -1 := if_pos (by omega)
    refine qV_iconst (pc := 26) dX7_mark_26 ?_
    refine qV_iret (pc := 27) dX7_mark_27 rfl (le_b rfl) (le_b rfl) ?_
    exact ⟨by rw [e0], rfl, rfl⟩
  · have hmi := mq_in hw (by omega) (i := (x - 97).toNat) (by omega)
    have hm5 := w5 (x - 97).toNat (by omega)
    have e0 : oMark X x = (if mq (X.1.2.2.2.2.1 (x - 97).toNat) < 0 then -9 else mq (X.1.2.2.2.2.1 (x - 97).toNat)) := by
      simp only [oMark]
      rw [if_neg (by omega)]
      split <;> omega
    refine qV_aload_n (pc := 7) 0 dX7_mark_7 rfl rfl ?_
    refine qV_get (pc := 8) kX7 0 (le_b rfl) lk_X7_7 rfl dX7_mark_8 (by first | assumption | exact hU_self _ _ _ | (refine (hU_ne (by omega)).trans ?_; first | assumption | exact hU_self _ _ _ | (refine (hU_ne (by omega)).trans ?_; first | assumption | exact hU_self _ _ _ | (refine (hU_ne (by omega)).trans ?_; first | assumption | exact hU_self _ _ _)))) (by exact rfl) ?_
    refine qV_sipush (pc := 11) dX7_mark_11 rfl ?_
    refine qV_iload_n (pc := 14) 1 dX7_mark_14 rfl rfl ?_
    refine qV_iadd (pc := 15) dX7_mark_15 ?_
    refine qV_bipush (pc := 16) dX7_mark_16 rfl ?_
    refine qV_isub (pc := 18) dX7_mark_18 ?_
    refine qV_ialdN (pc := 19) (515 + (x - 97).toNat) dX7_mark_19 (by first | assumption | exact hU_self _ _ _ | (refine (hU_ne (by omega)).trans ?_; first | assumption | exact hU_self _ _ _ | (refine (hU_ne (by omega)).trans ?_; first | assumption | exact hU_self _ _ _ | (refine (hU_ne (by omega)).trans ?_; first | assumption | exact hU_self _ _ _)))) (by omega) (by omega) (pM (x - 97).toNat (by omega)) ?_
    refine qV_rdS (pc := 20) (m_told ⟨by omega, by omega⟩) nX7_told lk_X7_125 dX7_mark_20 ⟨le_b rfl, le_b rfl⟩ ⟨le_b rfl, le_b rfl⟩ rfl (le_b rfl) ?_
    refine qV_goto (pc := 23) 27 dX7_mark_23 (by decide) ?_
    refine qV_iret (pc := 27) dX7_mark_27 rfl (le_b rfl) (le_b rfl) ?_
    exact ⟨by rw [e0], rfl, rfl⟩
set_option maxRecDepth 100000 in
set_option maxHeartbeats 4000000 in
theorem next_loop {x : Int} (ho : h r = some (rob r kn ty st)) (hs : h (r + 1) = some (iA 0 541 s)) (hP : SP s X.1) (wx : wfX X) (hx : 0 ≤ x ∧ x ≤ X.1.1) (e0 : oNext X x = (mfr X.1.2.2.2.2.1 x 26).1) : ∀ (m i : Nat) (q y z : Int) (x5 : Option Value), 26 - i = m → i ≤ 26 → q = i → y = (mfr X.1.2.2.2.2.1 x i).1 → ((mfr X.1.2.2.2.2.1 x i).1 = -9 → z = 121) → ((mfr X.1.2.2.2.2.1 x i).1 ≠ -9 → z = (mfr X.1.2.2.2.2.1 x i).2) → -9 ≤ z → z ≤ 5000 → qVM l mX7_next 0 0 h sz (fun v h' sz' => v = some (vI (oNext X x)) ∧ h' = h ∧ sz' = sz) 0 0 h sz 19 [some (.ref r), some (vI x), some (vI y), some (vI z), some (vI q), x5] [] := by
  obtain ⟨p0, p1, p2, pT, pC, pM⟩ := id hP
  have hw : wf 216 X.1 := wx.1.1.up (by have := wx.1.1.1; omega)
  obtain ⟨⟨⟨w1, w2, w3, w4, w5, w6, w7⟩, w8⟩, -⟩ := id wx
  have wcl := hw.c_le
  have hnl := nl_le X.1.2.1 X.1.1
  intro m
  induction m with
  | zero =>
    intro i q y z x5 hm hi hq hy hz1 hz2 hz3 hz4
    obtain rfl : i = 26 := by omega
    refine qV_iload (pc := 19) 4 dX7_next_19 rfl ?_
    refine qV_bipush (pc := 21) dX7_next_21 rfl ?_
    refine qV_icmp_ge (pc := 23) 66 dX7_next_23 (by decide) ⟨by omega, by omega⟩ ⟨by omega, by omega⟩ (fun c23 => ?_) (fun c23 => ?_)
    · refine qV_iload_n (pc := 66) 2 dX7_next_66 rfl rfl ?_
      refine qV_iret (pc := 67) dX7_next_67 rfl (le_b rfl) (le_b rfl) ?_
      exact ⟨by rw [e0, hy], rfl, rfl⟩
    · exfalso; omega
  | succ m ih =>
    intro i q y z x5 hm hi hq hy hz1 hz2 hz3 hz4
    have hmi := mq_in hw (by omega) (i := i) (by omega)
    have hm5 := w5 i (by omega)
    have e1 : mfr X.1.2.2.2.2.1 x (i + 1) = if x ≤ X.1.2.2.2.2.1 i ∧ ((mfr X.1.2.2.2.2.1 x i).1 = -9 ∨ X.1.2.2.2.2.1 i < (mfr X.1.2.2.2.2.1 x i).2) then (97 + (i : Int), X.1.2.2.2.2.1 i) else mfr X.1.2.2.2.2.1 x i := rfl
    refine qV_iload (pc := 19) 4 dX7_next_19 rfl ?_
    refine qV_bipush (pc := 21) dX7_next_21 rfl ?_
    refine qV_icmp_ge (pc := 23) 66 dX7_next_23 (by decide) ⟨by omega, by omega⟩ ⟨by omega, by omega⟩ (fun c23 => ?_) (fun c23 => ?_)
    · exfalso; omega
    · refine qV_aload_n (pc := 26) 0 dX7_next_26 rfl rfl ?_
      refine qV_get (pc := 27) kX7 0 (le_b rfl) lk_X7_7 rfl dX7_next_27 (by first | assumption | exact hU_self _ _ _ | (refine (hU_ne (by omega)).trans ?_; first | assumption | exact hU_self _ _ _ | (refine (hU_ne (by omega)).trans ?_; first | assumption | exact hU_self _ _ _ | (refine (hU_ne (by omega)).trans ?_; first | assumption | exact hU_self _ _ _)))) (by exact rfl) ?_
      refine qV_sipush (pc := 30) dX7_next_30 rfl ?_
      refine qV_iload (pc := 33) 4 dX7_next_33 rfl ?_
      refine qV_iadd (pc := 35) dX7_next_35 ?_
      refine qV_ialdN (pc := 36) (515 + i) dX7_next_36 (by first | assumption | exact hU_self _ _ _ | (refine (hU_ne (by omega)).trans ?_; first | assumption | exact hU_self _ _ _ | (refine (hU_ne (by omega)).trans ?_; first | assumption | exact hU_self _ _ _ | (refine (hU_ne (by omega)).trans ?_; first | assumption | exact hU_self _ _ _)))) (by omega) (by omega) (pM i (by omega)) ?_
      refine qV_istore (pc := 37) 5 dX7_next_37 (le_b rfl) (le_b rfl) rfl ?_
      refine qV_iload (pc := 39) 5 dX7_next_39 rfl ?_
      refine qV_iload_n (pc := 41) 1 dX7_next_41 rfl rfl ?_
      refine qV_icmp_lt (pc := 42) 60 dX7_next_42 (by decide) ⟨by omega, by omega⟩ ⟨by omega, by omega⟩ (fun c42 => ?_) (fun c42 => ?_)
      · refine qV_iinc (pc := 60) 4 dX7_next_60 rfl (le_b rfl) (le_b rfl) rfl ?_
        refine qV_goto (pc := 63) 19 dX7_next_63 (by decide) ?_
        first
        | (rw [if_neg (by omega)] at e1
           exact ih (i + 1) _ _ _ _ (by omega) (by omega) (by omega) (by rw [e1]; exact hy) (fun e => by rw [e1] at e; exact hz1 e) (fun e => by rw [e1] at e ⊢; exact hz2 e) hz3 hz4)
        | (rw [if_pos (by omega)] at e1
           exact ih (i + 1) _ _ _ _ (by omega) (by omega) (by omega) (by rw [e1, hq]) (fun e => by rw [e1] at e; simp only [] at e; omega) (fun e => by rw [e1]; simp only []; omega) (by omega) (by omega))
      · refine qV_iload (pc := 45) 5 dX7_next_45 rfl ?_
        refine qV_iload_n (pc := 47) 3 dX7_next_47 rfl rfl ?_
        refine qV_icmp_ge (pc := 48) 60 dX7_next_48 (by decide) ⟨by omega, by omega⟩ ⟨by omega, by omega⟩ (fun c48 => ?_) (fun c48 => ?_)
        · refine qV_iinc (pc := 60) 4 dX7_next_60 rfl (le_b rfl) (le_b rfl) rfl ?_
          refine qV_goto (pc := 63) 19 dX7_next_63 (by decide) ?_
          first
          | (rw [if_neg (by omega)] at e1
             exact ih (i + 1) _ _ _ _ (by omega) (by omega) (by omega) (by rw [e1]; exact hy) (fun e => by rw [e1] at e; exact hz1 e) (fun e => by rw [e1] at e ⊢; exact hz2 e) hz3 hz4)
          | (rw [if_pos (by omega)] at e1
             exact ih (i + 1) _ _ _ _ (by omega) (by omega) (by omega) (by rw [e1, hq]) (fun e => by rw [e1] at e; simp only [] at e; omega) (fun e => by rw [e1]; simp only []; omega) (by omega) (by omega))
        · refine qV_bipush (pc := 51) dX7_next_51 rfl ?_
          refine qV_iload (pc := 53) 4 dX7_next_53 rfl ?_
          refine qV_iadd (pc := 55) dX7_next_55 ?_
          refine qV_istore_n (pc := 56) 2 dX7_next_56 rfl (le_b rfl) (le_b rfl) rfl ?_
          refine qV_iload (pc := 57) 5 dX7_next_57 rfl ?_
          refine qV_istore_n (pc := 59) 3 dX7_next_59 rfl (le_b rfl) (le_b rfl) rfl ?_
          refine qV_iinc (pc := 60) 4 dX7_next_60 rfl (le_b rfl) (le_b rfl) rfl ?_
          refine qV_goto (pc := 63) 19 dX7_next_63 (by decide) ?_
          first
          | (rw [if_neg (by omega)] at e1
             exact ih (i + 1) _ _ _ _ (by omega) (by omega) (by omega) (by rw [e1]; exact hy) (fun e => by rw [e1] at e; exact hz1 e) (fun e => by rw [e1] at e ⊢; exact hz2 e) hz3 hz4)
          | (rw [if_pos (by omega)] at e1
             exact ih (i + 1) _ _ _ _ (by omega) (by omega) (by omega) (by rw [e1, hq]) (fun e => by rw [e1] at e; simp only [] at e; omega) (fun e => by rw [e1]; simp only []; omega) (by omega) (by omega))
set_option maxRecDepth 100000 in
set_option maxHeartbeats 4000000 in
theorem r_next {x : Int} (hx : iR x) (ho : h r = some (rob r kn ty st)) (hs : h (r + 1) = some (iA 0 541 s)) (hP : SP s X.1) (wx : wfX X) : qRd l mX7_next [.ref r, vI x] h sz (vI (oNext X x)) := by
  obtain ⟨p0, p1, p2, pT, pC, pM⟩ := id hP
  have hw : wf 216 X.1 := wx.1.1.up (by have := wx.1.1.1; omega)
  obtain ⟨⟨⟨w1, w2, w3, w4, w5, w6, w7⟩, w8⟩, -⟩ := id wx
  have wcl := hw.c_le
  have hnl := nl_le X.1.2.1 X.1.1
  obtain ⟨x1, x2⟩ := hx
  refine qC.of 4 (by decide) (le_b rfl) ?_
  refine qV_aload_n (pc := 0) 0 dX7_next_0 rfl rfl ?_
  refine qV_iload_n (pc := 1) 1 dX7_next_1 rfl rfl ?_
  refine qV_rdV (pc := 2) (m_isPlace ⟨x1, x2⟩ ho hs hP hw) nX7_isPlace kX7 lk_X7_68 dX7_next_2 (by first | assumption | exact hU_self _ _ _ | (refine (hU_ne (by omega)).trans ?_; first | assumption | exact hU_self _ _ _ | (refine (hU_ne (by omega)).trans ?_; first | assumption | exact hU_self _ _ _ | (refine (hU_ne (by omega)).trans ?_; first | assumption | exact hU_self _ _ _)))) ⟨le_b rfl, le_b rfl⟩ ⟨le_b rfl, le_b rfl⟩ rfl (le_b rfl) ?_
  refine qV_ifneB (pc := 5) 10 dX7_next_5 (by decide) (fun c5 => ?_) (fun c5 => ?_)
  · have e0 : oNext X x = (mfr X.1.2.2.2.2.1 x 26).1 := if_neg (by omega)
    refine qV_bipush (pc := 10) dX7_next_10 rfl ?_
    refine qV_istore_n (pc := 12) 2 dX7_next_12 rfl (le_b rfl) (le_b rfl) rfl ?_
    refine qV_bipush (pc := 13) dX7_next_13 rfl ?_
    refine qV_istore_n (pc := 15) 3 dX7_next_15 rfl (le_b rfl) (le_b rfl) rfl ?_
    refine qV_iconst (pc := 16) dX7_next_16 ?_
    refine qV_istore (pc := 17) 4 dX7_next_17 (le_b rfl) (le_b rfl) rfl ?_
    exact next_loop ho hs hP wx c5 e0 26 0 _ _ _ _ (by omega) (by omega) rfl rfl (fun _ => rfl) (fun e => absurd rfl e) (by omega) (by omega)
  · have e0 : oNext X x = -1 := if_pos (by omega)
    refine qV_iconst (pc := 8) dX7_next_8 ?_
    refine qV_iret (pc := 9) dX7_next_9 rfl (le_b rfl) (le_b rfl) ?_
    exact ⟨by rw [e0], rfl, rfl⟩
set_option maxRecDepth 100000 in
set_option maxHeartbeats 4000000 in
theorem rdig3 (ho : h r = some (rob r kn ty st)) (hs : h (r + 1) = some (iA 0 541 s)) (hP : SP s X.1) (wx : wfX X) : ∀ (m i : Nat) (q : Int), 26 - i = m → i ≤ 26 → q = i → qVM l mX7_digest 0 0 h sz (fun v h' sz' => v = some (vL (oDigest X)) ∧ h' = h ∧ sz' = sz) 0 0 h sz 73 [some (.ref r), some (vL (mxm (mix (mix 17 X.1.2.1 X.1.1) X.1.2.2.2.1 X.1.2.2.1) X.1.2.2.2.2.1 i)), none, some (vI q)] [] := by
  obtain ⟨p0, p1, p2, pT, pC, pM⟩ := id hP
  have hw : wf 216 X.1 := wx.1.1.up (by have := wx.1.1.1; omega)
  obtain ⟨⟨⟨w1, w2, w3, w4, w5, w6, w7⟩, w8⟩, -⟩ := id wx
  have wcl := hw.c_le
  have hnl := nl_le X.1.2.1 X.1.1
  intro m
  induction m with
  | zero =>
    intro i q hm hi hq
    obtain rfl : i = 26 := by omega
    refine qV_iload_n (pc := 73) 3 dX7_digest_73 rfl rfl ?_
    refine qV_bipush (pc := 74) dX7_digest_74 rfl ?_
    refine qV_icmp_ge (pc := 76) 129 dX7_digest_76 (by decide) ⟨by omega, by omega⟩ ⟨by omega, by omega⟩ (fun c76 => ?_) (fun c76 => ?_)
    · refine qV_lload_n (pc := 129) 1 dX7_digest_129 rfl rfl ?_
      refine qV_lret (pc := 130) dX7_digest_130 rfl (le_b rfl) (le_b rfl) ?_
      exact ⟨rfl, rfl, rfl⟩
    · exfalso; omega
  | succ m ih =>
    intro i q hm hi hq
    have hmi := mq_in hw (by omega) (i := i) (by omega)
    have hm5 := w5 i (by omega)
    refine qV_iload_n (pc := 73) 3 dX7_digest_73 rfl rfl ?_
    refine qV_bipush (pc := 74) dX7_digest_74 rfl ?_
    refine qV_icmp_ge (pc := 76) 129 dX7_digest_76 (by decide) ⟨by omega, by omega⟩ ⟨by omega, by omega⟩ (fun c76 => ?_) (fun c76 => ?_)
    · exfalso; omega
    · refine qV_aload_n (pc := 79) 0 dX7_digest_79 rfl rfl ?_
      refine qV_get (pc := 80) kX7 0 (le_b rfl) lk_X7_7 rfl dX7_digest_80 (by first | assumption | exact hU_self _ _ _ | (refine (hU_ne (by omega)).trans ?_; first | assumption | exact hU_self _ _ _ | (refine (hU_ne (by omega)).trans ?_; first | assumption | exact hU_self _ _ _ | (refine (hU_ne (by omega)).trans ?_; first | assumption | exact hU_self _ _ _)))) (by exact rfl) ?_
      refine qV_sipush (pc := 83) dX7_digest_83 rfl ?_
      refine qV_iload_n (pc := 86) 3 dX7_digest_86 rfl rfl ?_
      refine qV_iadd (pc := 87) dX7_digest_87 ?_
      refine qV_ialdN (pc := 88) (515 + i) dX7_digest_88 (by first | assumption | exact hU_self _ _ _ | (refine (hU_ne (by omega)).trans ?_; first | assumption | exact hU_self _ _ _ | (refine (hU_ne (by omega)).trans ?_; first | assumption | exact hU_self _ _ _ | (refine (hU_ne (by omega)).trans ?_; first | assumption | exact hU_self _ _ _)))) (by omega) (by omega) (pM i (by omega)) ?_
      refine qV_iflt (pc := 89) 123 dX7_digest_89 (by decide) ⟨by omega, by omega⟩ (fun c89 => ?_) (fun c89 => ?_)
      · refine qV_iinc (pc := 123) 3 dX7_digest_123 rfl (le_b rfl) (le_b rfl) rfl ?_
        refine qV_goto (pc := 126) 73 dX7_digest_126 (by decide) ?_
        first
        | (have e1 : mxm (mix (mix 17 X.1.2.1 X.1.1) X.1.2.2.2.1 X.1.2.2.1) X.1.2.2.2.2.1 (i + 1) = mxm (mix (mix 17 X.1.2.1 X.1.1) X.1.2.2.2.1 X.1.2.2.1) X.1.2.2.2.2.1 i := by simp only [mxm]; rw [if_pos (by omega)]
           have := ih (i + 1) (q + 1) (by omega) (by omega) (by omega)
           rw [e1] at this
           exact this)
        | (have e1 : mxm (mix (mix 17 X.1.2.1 X.1.1) X.1.2.2.2.1 X.1.2.2.1) X.1.2.2.2.2.1 (i + 1) = 31 * (31 * mxm (mix (mix 17 X.1.2.1 X.1.1) X.1.2.2.2.1 X.1.2.2.1) X.1.2.2.2.2.1 i + 97 + q) + mq (X.1.2.2.2.2.1 i) := by
             simp only [mxm]
             rw [if_neg (by omega), hmi.2.2.2 (by omega), hq, Int.add_assoc]
           have := ih (i + 1) (q + 1) (by omega) (by omega) (by omega)
           rw [e1] at this
           exact this)
      · refine qV_ldc2 (pc := 92) 31 (by decide) dX7_digest_92 lk_X7_130 ?_
        refine qV_lload_n (pc := 95) 1 dX7_digest_95 rfl rfl ?_
        refine qV_lmul (pc := 96) dX7_digest_96 ?_
        refine qV_ldc2 (pc := 97) 97 (by decide) dX7_digest_97 lk_X7_132 ?_
        refine qV_ladd (pc := 100) dX7_digest_100 ?_
        refine qV_iload_n (pc := 101) 3 dX7_digest_101 rfl rfl ?_
        refine qV_i2l (pc := 102) dX7_digest_102 ⟨by omega, by omega⟩ ?_
        refine qV_ladd (pc := 103) dX7_digest_103 ?_
        refine qV_lstore_n (pc := 104) 1 dX7_digest_104 rfl (le_b rfl) (le_b rfl) rfl ?_
        refine qV_ldc2 (pc := 105) 31 (by decide) dX7_digest_105 lk_X7_130 ?_
        refine qV_lload_n (pc := 108) 1 dX7_digest_108 rfl rfl ?_
        refine qV_lmul (pc := 109) dX7_digest_109 ?_
        refine qV_aload_n (pc := 110) 0 dX7_digest_110 rfl rfl ?_
        refine qV_get (pc := 111) kX7 0 (le_b rfl) lk_X7_7 rfl dX7_digest_111 (by first | assumption | exact hU_self _ _ _ | (refine (hU_ne (by omega)).trans ?_; first | assumption | exact hU_self _ _ _ | (refine (hU_ne (by omega)).trans ?_; first | assumption | exact hU_self _ _ _ | (refine (hU_ne (by omega)).trans ?_; first | assumption | exact hU_self _ _ _)))) (by exact rfl) ?_
        refine qV_sipush (pc := 114) dX7_digest_114 rfl ?_
        refine qV_iload_n (pc := 117) 3 dX7_digest_117 rfl rfl ?_
        refine qV_iadd (pc := 118) dX7_digest_118 ?_
        refine qV_ialdN (pc := 119) (515 + i) dX7_digest_119 (by first | assumption | exact hU_self _ _ _ | (refine (hU_ne (by omega)).trans ?_; first | assumption | exact hU_self _ _ _ | (refine (hU_ne (by omega)).trans ?_; first | assumption | exact hU_self _ _ _ | (refine (hU_ne (by omega)).trans ?_; first | assumption | exact hU_self _ _ _)))) (by omega) (by omega) (pM i (by omega)) ?_
        refine qV_i2l (pc := 120) dX7_digest_120 ⟨by omega, by omega⟩ ?_
        refine qV_ladd (pc := 121) dX7_digest_121 ?_
        refine qV_lstore_n (pc := 122) 1 dX7_digest_122 rfl (le_b rfl) (le_b rfl) rfl ?_
        refine qV_iinc (pc := 123) 3 dX7_digest_123 rfl (le_b rfl) (le_b rfl) rfl ?_
        refine qV_goto (pc := 126) 73 dX7_digest_126 (by decide) ?_
        first
        | (have e1 : mxm (mix (mix 17 X.1.2.1 X.1.1) X.1.2.2.2.1 X.1.2.2.1) X.1.2.2.2.2.1 (i + 1) = mxm (mix (mix 17 X.1.2.1 X.1.1) X.1.2.2.2.1 X.1.2.2.1) X.1.2.2.2.2.1 i := by simp only [mxm]; rw [if_pos (by omega)]
           have := ih (i + 1) (q + 1) (by omega) (by omega) (by omega)
           rw [e1] at this
           exact this)
        | (have e1 : mxm (mix (mix 17 X.1.2.1 X.1.1) X.1.2.2.2.1 X.1.2.2.1) X.1.2.2.2.2.1 (i + 1) = 31 * (31 * mxm (mix (mix 17 X.1.2.1 X.1.1) X.1.2.2.2.1 X.1.2.2.1) X.1.2.2.2.2.1 i + 97 + q) + mq (X.1.2.2.2.2.1 i) := by
             simp only [mxm]
             rw [if_neg (by omega), hmi.2.2.2 (by omega), hq, Int.add_assoc]
           have := ih (i + 1) (q + 1) (by omega) (by omega) (by omega)
           rw [e1] at this
           exact this)
set_option maxRecDepth 100000 in
set_option maxHeartbeats 4000000 in
theorem rdig2 (ho : h r = some (rob r kn ty st)) (hs : h (r + 1) = some (iA 0 541 s)) (hP : SP s X.1) (wx : wfX X) : ∀ (m i : Nat) (q : Int), X.1.2.2.1 - i = m → i ≤ X.1.2.2.1 → q = i → qVM l mX7_digest 0 0 h sz (fun v h' sz' => v = some (vL (oDigest X)) ∧ h' = h ∧ sz' = sz) 0 0 h sz 37 [some (.ref r), some (vL (mix (mix 17 X.1.2.1 X.1.1) X.1.2.2.2.1 i)), none, some (vI q)] [] := by
  obtain ⟨p0, p1, p2, pT, pC, pM⟩ := id hP
  have hw : wf 216 X.1 := wx.1.1.up (by have := wx.1.1.1; omega)
  obtain ⟨⟨⟨w1, w2, w3, w4, w5, w6, w7⟩, w8⟩, -⟩ := id wx
  have wcl := hw.c_le
  have hnl := nl_le X.1.2.1 X.1.1
  intro m
  induction m with
  | zero =>
    intro i q hm hi hq
    obtain rfl : i = X.1.2.2.1 := by omega
    refine qV_iload_n (pc := 37) 3 dX7_digest_37 rfl rfl ?_
    refine qV_aload_n (pc := 38) 0 dX7_digest_38 rfl rfl ?_
    refine qV_get (pc := 39) kX7 0 (le_b rfl) lk_X7_7 rfl dX7_digest_39 (by first | assumption | exact hU_self _ _ _ | (refine (hU_ne (by omega)).trans ?_; first | assumption | exact hU_self _ _ _ | (refine (hU_ne (by omega)).trans ?_; first | assumption | exact hU_self _ _ _ | (refine (hU_ne (by omega)).trans ?_; first | assumption | exact hU_self _ _ _)))) (by exact rfl) ?_
    refine qV_iconst (pc := 42) dX7_digest_42 ?_
    refine qV_ialdN (pc := 43) (1) dX7_digest_43 (by first | assumption | exact hU_self _ _ _ | (refine (hU_ne (by omega)).trans ?_; first | assumption | exact hU_self _ _ _ | (refine (hU_ne (by omega)).trans ?_; first | assumption | exact hU_self _ _ _ | (refine (hU_ne (by omega)).trans ?_; first | assumption | exact hU_self _ _ _)))) (by omega) (by omega) p1 ?_
    refine qV_icmp_ge (pc := 44) 71 dX7_digest_44 (by decide) ⟨by omega, by omega⟩ ⟨by omega, by omega⟩ (fun c44 => ?_) (fun c44 => ?_)
    · refine qV_iconst (pc := 71) dX7_digest_71 ?_
      refine qV_istore_n (pc := 72) 3 dX7_digest_72 rfl (le_b rfl) (le_b rfl) rfl ?_
      exact rdig3 ho hs hP wx 26 0 _ (by omega) (by omega) rfl
    · exfalso; omega
  | succ m ih =>
    intro i q hm hi hq
    have h3 := w3 i (by omega)
    refine qV_iload_n (pc := 37) 3 dX7_digest_37 rfl rfl ?_
    refine qV_aload_n (pc := 38) 0 dX7_digest_38 rfl rfl ?_
    refine qV_get (pc := 39) kX7 0 (le_b rfl) lk_X7_7 rfl dX7_digest_39 (by first | assumption | exact hU_self _ _ _ | (refine (hU_ne (by omega)).trans ?_; first | assumption | exact hU_self _ _ _ | (refine (hU_ne (by omega)).trans ?_; first | assumption | exact hU_self _ _ _ | (refine (hU_ne (by omega)).trans ?_; first | assumption | exact hU_self _ _ _)))) (by exact rfl) ?_
    refine qV_iconst (pc := 42) dX7_digest_42 ?_
    refine qV_ialdN (pc := 43) (1) dX7_digest_43 (by first | assumption | exact hU_self _ _ _ | (refine (hU_ne (by omega)).trans ?_; first | assumption | exact hU_self _ _ _ | (refine (hU_ne (by omega)).trans ?_; first | assumption | exact hU_self _ _ _ | (refine (hU_ne (by omega)).trans ?_; first | assumption | exact hU_self _ _ _)))) (by omega) (by omega) p1 ?_
    refine qV_icmp_ge (pc := 44) 71 dX7_digest_44 (by decide) ⟨by omega, by omega⟩ ⟨by omega, by omega⟩ (fun c44 => ?_) (fun c44 => ?_)
    · exfalso; omega
    · refine qV_ldc2 (pc := 47) 31 (by decide) dX7_digest_47 lk_X7_130 ?_
      refine qV_lload_n (pc := 50) 1 dX7_digest_50 rfl rfl ?_
      refine qV_lmul (pc := 51) dX7_digest_51 ?_
      refine qV_aload_n (pc := 52) 0 dX7_digest_52 rfl rfl ?_
      refine qV_get (pc := 53) kX7 0 (le_b rfl) lk_X7_7 rfl dX7_digest_53 (by first | assumption | exact hU_self _ _ _ | (refine (hU_ne (by omega)).trans ?_; first | assumption | exact hU_self _ _ _ | (refine (hU_ne (by omega)).trans ?_; first | assumption | exact hU_self _ _ _ | (refine (hU_ne (by omega)).trans ?_; first | assumption | exact hU_self _ _ _)))) (by exact rfl) ?_
      refine qV_sipush (pc := 56) dX7_digest_56 rfl ?_
      refine qV_iload_n (pc := 59) 3 dX7_digest_59 rfl rfl ?_
      refine qV_iadd (pc := 60) dX7_digest_60 ?_
      refine qV_ialdN (pc := 61) (259 + i) dX7_digest_61 (by first | assumption | exact hU_self _ _ _ | (refine (hU_ne (by omega)).trans ?_; first | assumption | exact hU_self _ _ _ | (refine (hU_ne (by omega)).trans ?_; first | assumption | exact hU_self _ _ _ | (refine (hU_ne (by omega)).trans ?_; first | assumption | exact hU_self _ _ _)))) (by omega) (by omega) (pC i (by omega)) ?_
      refine qV_i2l (pc := 62) dX7_digest_62 ⟨by omega, by omega⟩ ?_
      refine qV_ladd (pc := 63) dX7_digest_63 ?_
      refine qV_lstore_n (pc := 64) 1 dX7_digest_64 rfl (le_b rfl) (le_b rfl) rfl ?_
      refine qV_iinc (pc := 65) 3 dX7_digest_65 rfl (le_b rfl) (le_b rfl) rfl ?_
      refine qV_goto (pc := 68) 37 dX7_digest_68 (by decide) ?_
      exact ih (i + 1) _ (by omega) (by omega) (by omega)
set_option maxRecDepth 100000 in
set_option maxHeartbeats 4000000 in
theorem rdig1 (ho : h r = some (rob r kn ty st)) (hs : h (r + 1) = some (iA 0 541 s)) (hP : SP s X.1) (wx : wfX X) : ∀ (m i : Nat) (q : Int), X.1.1 - i = m → i ≤ X.1.1 → q = i → qVM l mX7_digest 0 0 h sz (fun v h' sz' => v = some (vL (oDigest X)) ∧ h' = h ∧ sz' = sz) 0 0 h sz 6 [some (.ref r), some (vL (mix 17 X.1.2.1 i)), none, some (vI q)] [] := by
  obtain ⟨p0, p1, p2, pT, pC, pM⟩ := id hP
  have hw : wf 216 X.1 := wx.1.1.up (by have := wx.1.1.1; omega)
  obtain ⟨⟨⟨w1, w2, w3, w4, w5, w6, w7⟩, w8⟩, -⟩ := id wx
  have wcl := hw.c_le
  have hnl := nl_le X.1.2.1 X.1.1
  intro m
  induction m with
  | zero =>
    intro i q hm hi hq
    obtain rfl : i = X.1.1 := by omega
    refine qV_iload_n (pc := 6) 3 dX7_digest_6 rfl rfl ?_
    refine qV_aload_n (pc := 7) 0 dX7_digest_7 rfl rfl ?_
    refine qV_get (pc := 8) kX7 0 (le_b rfl) lk_X7_7 rfl dX7_digest_8 (by first | assumption | exact hU_self _ _ _ | (refine (hU_ne (by omega)).trans ?_; first | assumption | exact hU_self _ _ _ | (refine (hU_ne (by omega)).trans ?_; first | assumption | exact hU_self _ _ _ | (refine (hU_ne (by omega)).trans ?_; first | assumption | exact hU_self _ _ _)))) (by exact rfl) ?_
    refine qV_iconst (pc := 11) dX7_digest_11 ?_
    refine qV_ialdN (pc := 12) (0) dX7_digest_12 (by first | assumption | exact hU_self _ _ _ | (refine (hU_ne (by omega)).trans ?_; first | assumption | exact hU_self _ _ _ | (refine (hU_ne (by omega)).trans ?_; first | assumption | exact hU_self _ _ _ | (refine (hU_ne (by omega)).trans ?_; first | assumption | exact hU_self _ _ _)))) (by omega) (by omega) p0 ?_
    refine qV_icmp_ge (pc := 13) 35 dX7_digest_13 (by decide) ⟨by omega, by omega⟩ ⟨by omega, by omega⟩ (fun c13 => ?_) (fun c13 => ?_)
    · refine qV_iconst (pc := 35) dX7_digest_35 ?_
      refine qV_istore_n (pc := 36) 3 dX7_digest_36 rfl (le_b rfl) (le_b rfl) rfl ?_
      exact rdig2 ho hs hP wx X.1.2.2.1 0 _ (by omega) (by omega) rfl
    · exfalso; omega
  | succ m ih =>
    intro i q hm hi hq
    have h3 := w2 i (by omega)
    refine qV_iload_n (pc := 6) 3 dX7_digest_6 rfl rfl ?_
    refine qV_aload_n (pc := 7) 0 dX7_digest_7 rfl rfl ?_
    refine qV_get (pc := 8) kX7 0 (le_b rfl) lk_X7_7 rfl dX7_digest_8 (by first | assumption | exact hU_self _ _ _ | (refine (hU_ne (by omega)).trans ?_; first | assumption | exact hU_self _ _ _ | (refine (hU_ne (by omega)).trans ?_; first | assumption | exact hU_self _ _ _ | (refine (hU_ne (by omega)).trans ?_; first | assumption | exact hU_self _ _ _)))) (by exact rfl) ?_
    refine qV_iconst (pc := 11) dX7_digest_11 ?_
    refine qV_ialdN (pc := 12) (0) dX7_digest_12 (by first | assumption | exact hU_self _ _ _ | (refine (hU_ne (by omega)).trans ?_; first | assumption | exact hU_self _ _ _ | (refine (hU_ne (by omega)).trans ?_; first | assumption | exact hU_self _ _ _ | (refine (hU_ne (by omega)).trans ?_; first | assumption | exact hU_self _ _ _)))) (by omega) (by omega) p0 ?_
    refine qV_icmp_ge (pc := 13) 35 dX7_digest_13 (by decide) ⟨by omega, by omega⟩ ⟨by omega, by omega⟩ (fun c13 => ?_) (fun c13 => ?_)
    · exfalso; omega
    · refine qV_ldc2 (pc := 16) 31 (by decide) dX7_digest_16 lk_X7_130 ?_
      refine qV_lload_n (pc := 19) 1 dX7_digest_19 rfl rfl ?_
      refine qV_lmul (pc := 20) dX7_digest_20 ?_
      refine qV_aload_n (pc := 21) 0 dX7_digest_21 rfl rfl ?_
      refine qV_iload_n (pc := 22) 3 dX7_digest_22 rfl rfl ?_
      refine qV_rdV (pc := 23) (m_byteAt ho hs hP hw hq (by omega)) nX7_byteAt kX7 lk_X7_89 dX7_digest_23 (by first | assumption | exact hU_self _ _ _ | (refine (hU_ne (by omega)).trans ?_; first | assumption | exact hU_self _ _ _ | (refine (hU_ne (by omega)).trans ?_; first | assumption | exact hU_self _ _ _ | (refine (hU_ne (by omega)).trans ?_; first | assumption | exact hU_self _ _ _)))) ⟨le_b rfl, le_b rfl⟩ ⟨le_b rfl, le_b rfl⟩ rfl (le_b rfl) ?_
      refine qV_i2l (pc := 26) dX7_digest_26 ⟨by omega, by omega⟩ ?_
      refine qV_ladd (pc := 27) dX7_digest_27 ?_
      refine qV_lstore_n (pc := 28) 1 dX7_digest_28 rfl (le_b rfl) (le_b rfl) rfl ?_
      refine qV_iinc (pc := 29) 3 dX7_digest_29 rfl (le_b rfl) (le_b rfl) rfl ?_
      refine qV_goto (pc := 32) 6 dX7_digest_32 (by decide) ?_
      exact ih (i + 1) _ (by omega) (by omega) (by omega)
set_option maxRecDepth 100000 in
set_option maxHeartbeats 4000000 in
theorem r_digest (ho : h r = some (rob r kn ty st)) (hs : h (r + 1) = some (iA 0 541 s)) (hP : SP s X.1) (wx : wfX X) : qRd l mX7_digest [.ref r] h sz (vL (oDigest X)) := by
  refine qC.of 3 (by decide) (le_b rfl) ?_
  refine qV_ldc2 (pc := 0) 17 (by decide) dX7_digest_0 lk_X7_128 ?_
  refine qV_lstore_n (pc := 3) 1 dX7_digest_3 rfl (le_b rfl) (le_b rfl) rfl ?_
  refine qV_iconst (pc := 4) dX7_digest_4 ?_
  refine qV_istore_n (pc := 5) 3 dX7_digest_5 rfl (le_b rfl) (le_b rfl) rfl ?_
  exact rdig1 ho hs hP wx X.1.1 0 _ (by omega) (by omega) rfl
set_option maxRecDepth 100000 in
set_option maxHeartbeats 4000000 in
theorem count5 {x : Int} (ho : h r = some (rob r kn ty st)) (hs : h (r + 1) = some (iA 0 541 s)) (hP : SP s X.1) (wx : wfX X) : ∀ (m j : Nat) (q z : Int), nl X.1.2.1 X.1.1 + 1 - j = m → j ≤ nl X.1.2.1 X.1.1 + 1 → q = j → z = wmax (lnW X.1.2.1 X.1.1) j → 0 ≤ z → z ≤ 5000 → qVM l mX7_count 0 0 h sz (fun v h' sz' => v = some (vI (wmax (lnW X.1.2.1 X.1.1) (nl X.1.2.1 X.1.1 + 1))) ∧ h' = h ∧ sz' = sz) 0 0 h sz 84 [some (.ref r), some (vI x), some (vI z), some (vI q)] [] := by
  obtain ⟨p0, p1, p2, pT, pC, pM⟩ := id hP
  have hw : wf 216 X.1 := wx.1.1.up (by have := wx.1.1.1; omega)
  obtain ⟨⟨⟨w1, w2, w3, w4, w5, w6, w7⟩, w8⟩, -⟩ := id wx
  have wcl := hw.c_le
  have hnl := nl_le X.1.2.1 X.1.1
  intro m
  induction m with
  | zero =>
    intro j q z hm hj hq hz hz0 hz1
    obtain rfl : j = nl X.1.2.1 X.1.1 + 1 := by omega
    refine qV_iload_n (pc := 84) 3 dX7_count_84 rfl rfl ?_
    refine qV_aload_n (pc := 85) 0 dX7_count_85 rfl rfl ?_
    refine qV_rdV (pc := 86) (m_lines ho hs hP hw) nX7_lines kX7 lk_X7_106 dX7_count_86 (by first | assumption | exact hU_self _ _ _ | (refine (hU_ne (by omega)).trans ?_; first | assumption | exact hU_self _ _ _ | (refine (hU_ne (by omega)).trans ?_; first | assumption | exact hU_self _ _ _ | (refine (hU_ne (by omega)).trans ?_; first | assumption | exact hU_self _ _ _)))) ⟨le_b rfl, le_b rfl⟩ ⟨le_b rfl, le_b rfl⟩ rfl (le_b rfl) ?_
    refine qV_icmp_ge (pc := 89) 117 dX7_count_89 (by decide) ⟨by omega, by omega⟩ ⟨by omega, by omega⟩ (fun c89 => ?_) (fun c89 => ?_)
    · refine qV_iload_n (pc := 117) 2 dX7_count_117 rfl rfl ?_
      refine qV_iret (pc := 118) dX7_count_118 rfl (le_b rfl) (le_b rfl) ?_
      exact ⟨by rw [hz], rfl, rfl⟩
    · exfalso; omega
  | succ m ih =>
    intro j q z hm hj hq hz hz0 hz1
    have wj := lnW_in (T := X.1.2.1) (n := X.1.1) (k := j) (by omega)
    refine qV_iload_n (pc := 84) 3 dX7_count_84 rfl rfl ?_
    refine qV_aload_n (pc := 85) 0 dX7_count_85 rfl rfl ?_
    refine qV_rdV (pc := 86) (m_lines ho hs hP hw) nX7_lines kX7 lk_X7_106 dX7_count_86 (by first | assumption | exact hU_self _ _ _ | (refine (hU_ne (by omega)).trans ?_; first | assumption | exact hU_self _ _ _ | (refine (hU_ne (by omega)).trans ?_; first | assumption | exact hU_self _ _ _ | (refine (hU_ne (by omega)).trans ?_; first | assumption | exact hU_self _ _ _)))) ⟨le_b rfl, le_b rfl⟩ ⟨le_b rfl, le_b rfl⟩ rfl (le_b rfl) ?_
    refine qV_icmp_ge (pc := 89) 117 dX7_count_89 (by decide) ⟨by omega, by omega⟩ ⟨by omega, by omega⟩ (fun c89 => ?_) (fun c89 => ?_)
    · exfalso; omega
    · refine qV_aload_n (pc := 92) 0 dX7_count_92 rfl rfl ?_
      refine qV_iload_n (pc := 93) 3 dX7_count_93 rfl rfl ?_
      refine qV_rdV (pc := 94) (m_cellsOf (k := j) ho hs hP hw hq (by omega)) nX7_cellsOf kX7 lk_X7_116 dX7_count_94 (by first | assumption | exact hU_self _ _ _ | (refine (hU_ne (by omega)).trans ?_; first | assumption | exact hU_self _ _ _ | (refine (hU_ne (by omega)).trans ?_; first | assumption | exact hU_self _ _ _ | (refine (hU_ne (by omega)).trans ?_; first | assumption | exact hU_self _ _ _)))) ⟨le_b rfl, le_b rfl⟩ ⟨le_b rfl, le_b rfl⟩ rfl (le_b rfl) ?_
      refine qV_iload_n (pc := 97) 2 dX7_count_97 rfl rfl ?_
      refine qV_icmp_le (pc := 98) 109 dX7_count_98 (by decide) ⟨by omega, by omega⟩ ⟨by omega, by omega⟩ (fun c98 => ?_) (fun c98 => ?_)
      · refine qV_iload_n (pc := 109) 2 dX7_count_109 rfl rfl ?_
        refine qV_istore_n (pc := 110) 2 dX7_count_110 rfl (le_b rfl) (le_b rfl) rfl ?_
        refine qV_iinc (pc := 111) 3 dX7_count_111 rfl (le_b rfl) (le_b rfl) rfl ?_
        refine qV_goto (pc := 114) 84 dX7_count_114 (by decide) ?_
        exact ih (j + 1) _ _ (by omega) (by omega) (by omega) (by simp only [wmax]; omega) (by omega) (by omega)
      · refine qV_aload_n (pc := 101) 0 dX7_count_101 rfl rfl ?_
        refine qV_iload_n (pc := 102) 3 dX7_count_102 rfl rfl ?_
        refine qV_rdV (pc := 103) (m_cellsOf (k := j) ho hs hP hw hq (by omega)) nX7_cellsOf kX7 lk_X7_116 dX7_count_103 (by first | assumption | exact hU_self _ _ _ | (refine (hU_ne (by omega)).trans ?_; first | assumption | exact hU_self _ _ _ | (refine (hU_ne (by omega)).trans ?_; first | assumption | exact hU_self _ _ _ | (refine (hU_ne (by omega)).trans ?_; first | assumption | exact hU_self _ _ _)))) ⟨le_b rfl, le_b rfl⟩ ⟨le_b rfl, le_b rfl⟩ rfl (le_b rfl) ?_
        refine qV_goto (pc := 106) 110 dX7_count_106 (by decide) ?_
        refine qV_istore_n (pc := 110) 2 dX7_count_110 rfl (le_b rfl) (le_b rfl) rfl ?_
        refine qV_iinc (pc := 111) 3 dX7_count_111 rfl (le_b rfl) (le_b rfl) rfl ?_
        refine qV_goto (pc := 114) 84 dX7_count_114 (by decide) ?_
        exact ih (j + 1) _ _ (by omega) (by omega) (by omega) (by simp only [wmax]; omega) (by omega) (by omega)
set_option maxRecDepth 100000 in
set_option maxHeartbeats 4000000 in
theorem r_count {x : Int} (hx : iR x) (ho : h r = some (rob r X.2.2.2.1.2 X.2.1.1 X.2.2.1.2)) (hs : h (r + 1) = some (iA 0 541 s)) (hP : SP s X.1) (wx : wfX X) : qRd l mX7_count [.ref r, vI x] h sz (vI (oCount X x)) := by
  obtain ⟨p0, p1, p2, pT, pC, pM⟩ := id hP
  have hw : wf 216 X.1 := wx.1.1.up (by have := wx.1.1.1; omega)
  obtain ⟨⟨⟨w1, w2, w3, w4, w5, w6, w7⟩, w8⟩, -⟩ := id wx
  have wcl := hw.c_le
  have hnl := nl_le X.1.2.1 X.1.1
  obtain ⟨x1, x2⟩ := hx
  refine qC.of 2 (by decide) (le_b rfl) ?_
  refine qV_iconst (pc := 0) dX7_count_0 ?_
  refine qV_istore_n (pc := 1) 2 dX7_count_1 rfl (le_b rfl) (le_b rfl) rfl ?_
  refine qV_iload_n (pc := 2) 1 dX7_count_2 rfl rfl ?_
  by_cases e0 : 0 ≤ x ∧ x ≤ 3
  · refine qV_tswIn (pc := 3) 64 dX7_count_3 ⟨x1, x2⟩ (by omega) (by omega) (off := 61) (by
      rcases (show x = 0 ∨ x = 1 ∨ x = 2 ∨ x = 3 by omega) with rfl | rfl | rfl | rfl <;> rfl) (by decide) ?_
    refine qV_aload_n (pc := 64) 0 dX7_count_64 rfl rfl ?_
    refine qV_iconst (pc := 65) dX7_count_65 ?_
    refine qV_aload_n (pc := 66) 0 dX7_count_66 rfl rfl ?_
    refine qV_get (pc := 67) kX7 0 (le_b rfl) lk_X7_7 rfl dX7_count_67 (by first | assumption | exact hU_self _ _ _ | (refine (hU_ne (by omega)).trans ?_; first | assumption | exact hU_self _ _ _ | (refine (hU_ne (by omega)).trans ?_; first | assumption | exact hU_self _ _ _ | (refine (hU_ne (by omega)).trans ?_; first | assumption | exact hU_self _ _ _)))) (by exact rfl) ?_
    refine qV_iconst (pc := 70) dX7_count_70 ?_
    refine qV_ialdN (pc := 71) (0) dX7_count_71 (by first | assumption | exact hU_self _ _ _ | (refine (hU_ne (by omega)).trans ?_; first | assumption | exact hU_self _ _ _ | (refine (hU_ne (by omega)).trans ?_; first | assumption | exact hU_self _ _ _ | (refine (hU_ne (by omega)).trans ?_; first | assumption | exact hU_self _ _ _)))) (by omega) (by omega) p0 ?_
    refine qV_iload_n (pc := 72) 1 dX7_count_72 rfl rfl ?_
    refine qV_rdV (pc := 73) (m_measure (w := x.toNat) (a := 0) (b := X.1.1) ho hs hP hw rfl rfl (by omega) (by omega) (Nat.zero_le _) (Nat.le_refl _)) nX7_measure kX7 lk_X7_96 dX7_count_73 (by first | assumption | exact hU_self _ _ _ | (refine (hU_ne (by omega)).trans ?_; first | assumption | exact hU_self _ _ _ | (refine (hU_ne (by omega)).trans ?_; first | assumption | exact hU_self _ _ _ | (refine (hU_ne (by omega)).trans ?_; first | assumption | exact hU_self _ _ _)))) ⟨le_b rfl, le_b rfl⟩ ⟨le_b rfl, le_b rfl⟩ rfl (le_b rfl) ?_
    refine qV_iret (pc := 76) dX7_count_76 rfl (le_b rfl) (le_b rfl) ?_
    exact ⟨by simp only [oCount]; rw [if_pos e0]; simp [measM], rfl, rfl⟩
  by_cases e4 : x = 4
  · subst e4
    refine qV_tswIn (pc := 3) 77 dX7_count_3 ⟨by decide, by decide⟩ (by decide) (by decide) rfl (by decide) ?_
    refine qV_aload_n (pc := 77) 0 dX7_count_77 rfl rfl ?_
    refine qV_rdV (pc := 78) (m_lines ho hs hP hw) nX7_lines kX7 lk_X7_106 dX7_count_78 (by first | assumption | exact hU_self _ _ _ | (refine (hU_ne (by omega)).trans ?_; first | assumption | exact hU_self _ _ _ | (refine (hU_ne (by omega)).trans ?_; first | assumption | exact hU_self _ _ _ | (refine (hU_ne (by omega)).trans ?_; first | assumption | exact hU_self _ _ _)))) ⟨le_b rfl, le_b rfl⟩ ⟨le_b rfl, le_b rfl⟩ rfl (le_b rfl) ?_
    refine qV_iret (pc := 81) dX7_count_81 rfl (le_b rfl) (le_b rfl) ?_
    exact ⟨rfl, rfl, rfl⟩
  by_cases e5 : x = 5
  · subst e5
    refine qV_tswIn (pc := 3) 82 dX7_count_3 ⟨by decide, by decide⟩ (by decide) (by decide) rfl (by decide) ?_
    have e0 : oCount X 5 = wmax (lnW X.1.2.1 X.1.1) (nl X.1.2.1 X.1.1 + 1) := rfl
    rw [e0]
    refine qV_iconst (pc := 82) dX7_count_82 ?_
    refine qV_istore_n (pc := 83) 3 dX7_count_83 rfl (le_b rfl) (le_b rfl) rfl ?_
    exact count5 ho hs hP wx (nl X.1.2.1 X.1.1 + 1) 0 _ _ (by omega) (by omega) rfl rfl (by omega) (by omega)
  by_cases e6 : x = 6
  · subst e6
    refine qV_tswIn (pc := 3) 119 dX7_count_3 ⟨by decide, by decide⟩ (by decide) (by decide) rfl (by decide) ?_
    refine qV_aload_n (pc := 119) 0 dX7_count_119 rfl rfl ?_
    refine qV_get (pc := 120) kX7 0 (le_b rfl) lk_X7_7 rfl dX7_count_120 (by first | assumption | exact hU_self _ _ _ | (refine (hU_ne (by omega)).trans ?_; first | assumption | exact hU_self _ _ _ | (refine (hU_ne (by omega)).trans ?_; first | assumption | exact hU_self _ _ _ | (refine (hU_ne (by omega)).trans ?_; first | assumption | exact hU_self _ _ _)))) (by exact rfl) ?_
    refine qV_iconst (pc := 123) dX7_count_123 ?_
    refine qV_ialdN (pc := 124) (1) dX7_count_124 (by first | assumption | exact hU_self _ _ _ | (refine (hU_ne (by omega)).trans ?_; first | assumption | exact hU_self _ _ _ | (refine (hU_ne (by omega)).trans ?_; first | assumption | exact hU_self _ _ _ | (refine (hU_ne (by omega)).trans ?_; first | assumption | exact hU_self _ _ _)))) (by omega) (by omega) p1 ?_
    refine qV_iret (pc := 125) dX7_count_125 rfl (le_b rfl) (le_b rfl) ?_
    exact ⟨rfl, rfl, rfl⟩
  by_cases e7 : x = 7
  · subst e7
    refine qV_tswIn (pc := 3) 126 dX7_count_3 ⟨by decide, by decide⟩ (by decide) (by decide) rfl (by decide) ?_
    refine qV_aload_n (pc := 126) 0 dX7_count_126 rfl rfl ?_
    refine qV_rdV (pc := 127) (m_marksOf ho hs hP hw) nX7_marksOf kX7 lk_X7_122 dX7_count_127 (by first | assumption | exact hU_self _ _ _ | (refine (hU_ne (by omega)).trans ?_; first | assumption | exact hU_self _ _ _ | (refine (hU_ne (by omega)).trans ?_; first | assumption | exact hU_self _ _ _ | (refine (hU_ne (by omega)).trans ?_; first | assumption | exact hU_self _ _ _)))) ⟨le_b rfl, le_b rfl⟩ ⟨le_b rfl, le_b rfl⟩ rfl (le_b rfl) ?_
    refine qV_iret (pc := 130) dX7_count_130 rfl (le_b rfl) (le_b rfl) ?_
    exact ⟨rfl, rfl, rfl⟩
  by_cases e8 : x = 8
  · subst e8
    refine qV_tswIn (pc := 3) 131 dX7_count_3 ⟨by decide, by decide⟩ (by decide) (by decide) rfl (by decide) ?_
    refine qV_aload_n (pc := 131) 0 dX7_count_131 rfl rfl ?_
    refine qV_get (pc := 132) kX7 0 (le_b rfl) lk_X7_7 rfl dX7_count_132 (by first | assumption | exact hU_self _ _ _ | (refine (hU_ne (by omega)).trans ?_; first | assumption | exact hU_self _ _ _ | (refine (hU_ne (by omega)).trans ?_; first | assumption | exact hU_self _ _ _ | (refine (hU_ne (by omega)).trans ?_; first | assumption | exact hU_self _ _ _)))) (by exact rfl) ?_
    refine qV_iconst (pc := 135) dX7_count_135 ?_
    refine qV_ialdN (pc := 136) (2) dX7_count_136 (by first | assumption | exact hU_self _ _ _ | (refine (hU_ne (by omega)).trans ?_; first | assumption | exact hU_self _ _ _ | (refine (hU_ne (by omega)).trans ?_; first | assumption | exact hU_self _ _ _ | (refine (hU_ne (by omega)).trans ?_; first | assumption | exact hU_self _ _ _)))) (by omega) (by omega) p2 ?_
    refine qV_iret (pc := 137) dX7_count_137 rfl (le_b rfl) (le_b rfl) ?_
    exact ⟨rfl, rfl, rfl⟩
  by_cases e9 : x = 9
  · subst e9
    refine qV_tswIn (pc := 3) 138 dX7_count_3 ⟨by decide, by decide⟩ (by decide) (by decide) rfl (by decide) ?_
    refine qV_aload_n (pc := 138) 0 dX7_count_138 rfl rfl ?_
    refine qV_get (pc := 139) kX7 6 (le_b rfl) lk_X7_65 rfl dX7_count_139 (by first | assumption | exact hU_self _ _ _ | (refine (hU_ne (by omega)).trans ?_; first | assumption | exact hU_self _ _ _ | (refine (hU_ne (by omega)).trans ?_; first | assumption | exact hU_self _ _ _ | (refine (hU_ne (by omega)).trans ?_; first | assumption | exact hU_self _ _ _)))) (by exact rfl) ?_
    refine qV_iret (pc := 142) dX7_count_142 rfl (le_b rfl) (le_b rfl) ?_
    exact ⟨rfl, rfl, rfl⟩
  by_cases e10 : x = 10
  · subst e10
    refine qV_tswIn (pc := 3) 143 dX7_count_3 ⟨by decide, by decide⟩ (by decide) (by decide) rfl (by decide) ?_
    refine qV_aload_n (pc := 143) 0 dX7_count_143 rfl rfl ?_
    refine qV_get (pc := 144) kX7 11 (le_b rfl) lk_X7_76 rfl dX7_count_144 (by first | assumption | exact hU_self _ _ _ | (refine (hU_ne (by omega)).trans ?_; first | assumption | exact hU_self _ _ _ | (refine (hU_ne (by omega)).trans ?_; first | assumption | exact hU_self _ _ _ | (refine (hU_ne (by omega)).trans ?_; first | assumption | exact hU_self _ _ _)))) (by exact rfl) ?_
    refine qV_iret (pc := 147) dX7_count_147 rfl (le_b rfl) (le_b rfl) ?_
    exact ⟨rfl, rfl, rfl⟩
  by_cases e11 : x = 11
  · subst e11
    refine qV_tswIn (pc := 3) 148 dX7_count_3 ⟨by decide, by decide⟩ (by decide) (by decide) rfl (by decide) ?_
    refine qV_aload_n (pc := 148) 0 dX7_count_148 rfl rfl ?_
    refine qV_get (pc := 149) kX7 2 (le_b rfl) lk_X7_61 rfl dX7_count_149 (by first | assumption | exact hU_self _ _ _ | (refine (hU_ne (by omega)).trans ?_; first | assumption | exact hU_self _ _ _ | (refine (hU_ne (by omega)).trans ?_; first | assumption | exact hU_self _ _ _ | (refine (hU_ne (by omega)).trans ?_; first | assumption | exact hU_self _ _ _)))) (by exact rfl) ?_
    refine qV_iret (pc := 152) dX7_count_152 rfl (le_b rfl) (le_b rfl) ?_
    exact ⟨rfl, rfl, rfl⟩
  refine qV_tswOut (pc := 3) 153 dX7_count_3 ⟨x1, x2⟩ (by omega) (by decide) ?_
  refine qV_iconst (pc := 153) dX7_count_153 ?_
  refine qV_iret (pc := 154) dX7_count_154 rfl (le_b rfl) (le_b rfl) ?_
  exact ⟨by simp only [oCount]; rw [if_neg e0, if_neg e4, if_neg e5, if_neg e6, if_neg e7, if_neg e8, if_neg e9, if_neg e10, if_neg e11], rfl, rfl⟩
end REF2
