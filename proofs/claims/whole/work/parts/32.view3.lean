/-! ===== ChunkView: images; a new one ===== -/
section CGS2
variable {h h2 : qH} {sz v n : Nat} {P : PG} {T : Nat → Int} {tp : Nat × (Nat → Int)} {sg : (Nat → ED) × Nat} {hs : (Nat → PG) × Nat} {im : Nat → Option PG}
theorem CG.far {lo hi sz2 : Nat} {im2 : Nat → Option PG} (c : CG h sz v P n T tp sg hs im) (f : Fr h h2 lo hi) (d : v + 106 ≤ lo) (q : Imgs h2 sz2 v im2) (hz : v + 106 ≤ sz2) : CG h2 sz2 v P n T tp sg hs im2 := by
  obtain ⟨a1, a2, ⟨s, a3⟩, a4, a5, a6, a7, a8⟩ := c
  exact ⟨(f _ (by omega)).trans a1, a2.fr f (by omega), ⟨s, a3.fr f (by omega)⟩, a4.fr f (by omega), a5.fr f (by omega), a6.fr f (by omega), q, hz⟩
theorem CG.arr {sz2 : Nat} {im2 : Nat → Option PG} (c : CG h sz v P n T tp sg hs im) (f : Fr h h2 (v + 95) (v + 96)) (q : Imgs h2 sz2 v im2) (hz : v + 106 ≤ sz2) : CG h2 sz2 v P n T tp sg hs im2 := by
  obtain ⟨a1, a2, ⟨s, a3⟩, a4, a5, a6, a7, a8⟩ := c
  exact ⟨(f _ (by omega)).trans a1, a2.fr f (by omega), ⟨s, a3.fr f (by omega)⟩, a4.fr f (by omega), a5.fr f (by omega), a6.fr f (by omega), q, hz⟩
end CGS2
section VIEW3
variable {l : Launch} {h : qH} {sz v : Nat} {X : XS}
set_option maxRecDepth 100000 in
set_option maxHeartbeats 4000000 in
theorem v_keep {x : Int} (hx : iR x) (hI : CInv h sz v X) (wx : wfX X) : qRt l mX6_keep 7 276 [.ref v, vI x] h sz (fun w h' sz' => w = vI (oKeep X x).1 ∧ CInv h' sz' v (oKeep X x).2 ∧ Kp h h' v ∧ sz ≤ sz') := by
  have c0 : CG h sz v X.1 X.1.1 X.1.2.1 X.2.1 X.2.2.1 X.2.2.2.1 X.2.2.2.2 := hI
  have k0 : Kp h h v := Kp.rf
  obtain ⟨ho, hP, ⟨s0, hS⟩, ht, hg, hy, hi, hv⟩ := id c0
  obtain ⟨hp1, hpb, hpc, hpm⟩ := id hP
  have hs1 := hS.1
  obtain ⟨_, _, -, -, hg1, -⟩ := id hg
  obtain ⟨_, _, -, hy1, -⟩ := id hy
  obtain ⟨wP, wT, wS, wz, wH, wy, wI⟩ := id wx
  obtain ⟨⟨w1, w2, w3, w4, w5, w6, w7⟩, w8⟩ := id wP
  have wcl := wP.1.c_le
  obtain ⟨f, i1, i2, i3, i4⟩ := id hi
  have hold : ∀ (j b : Nat), j < 2 → f j = some b → v + 106 ≤ b ∧ b + 7 ≤ sz := fun j b hj hb => by
    cases e : X.2.2.2.2 j with
    | none => rw [i2 j hj e] at hb; cases hb
    | some Q =>
      obtain ⟨a, a1, a2, a3, -⟩ := i3 j Q hj e
      rw [a1] at hb
      cases hb
      exact ⟨a2, a3⟩
  obtain ⟨x1, x2⟩ := hx
  refine qC.of 1 (by decide) (le_b rfl) ?_
  refine qV_iload_n (pc := 0) 1 dX6_keep_0 rfl rfl ?_
  refine qV_iflt (pc := 1) 13 dX6_keep_1 (by decide) ⟨by omega, by omega⟩ (fun c1 => ?_) (fun c1 => ?_)
  · refine qV_iconst (pc := 13) dX6_keep_13 ?_
    refine qV_iret (pc := 14) dX6_keep_14 rfl (le_b rfl) (le_b rfl) ?_
    have e0 : oKeep X x = (-1, X) := if_pos (by omega)
    exact ⟨_, rfl, by rw [e0], by rw [e0]; exact hI, Kp.rf, Nat.le_refl _⟩
  · refine qV_iload_n (pc := 4) 1 dX6_keep_4 rfl rfl ?_
    refine qV_aload_n (pc := 5) 0 dX6_keep_5 rfl rfl ?_
    refine qV_get (pc := 6) kX6 5 (le_b rfl) lk_X6_46 rfl dX6_keep_6 (by first | assumption | exact hU_self _ _ _ | (refine (hU_ne (by omega)).trans ?_; first | assumption | exact hU_self _ _ _ | (refine (hU_ne (by omega)).trans ?_; first | assumption | exact hU_self _ _ _ | (refine (hU_ne (by omega)).trans ?_; first | assumption | exact hU_self _ _ _)))) (by exact rfl) ?_
    refine qV_alenR (pc := 9) dX6_keep_9 (by first | assumption | exact hU_self _ _ _ | (refine (hU_ne (by omega)).trans ?_; first | assumption | exact hU_self _ _ _ | (refine (hU_ne (by omega)).trans ?_; first | assumption | exact hU_self _ _ _ | (refine (hU_ne (by omega)).trans ?_; first | assumption | exact hU_self _ _ _)))) ?_
    refine qV_icmp_lt (pc := 10) 15 dX6_keep_10 (by decide) ⟨by omega, by omega⟩ ⟨by omega, by omega⟩ (fun c10 => ?_) (fun c10 => ?_)
    · cases eI : X.2.2.2.2 x.toNat with
      | none =>
        refine qV_aload_n (pc := 15) 0 dX6_keep_15 rfl rfl ?_
        refine qV_get (pc := 16) kX6 5 (le_b rfl) lk_X6_46 rfl dX6_keep_16 (by first | assumption | exact hU_self _ _ _ | (refine (hU_ne (by omega)).trans ?_; first | assumption | exact hU_self _ _ _ | (refine (hU_ne (by omega)).trans ?_; first | assumption | exact hU_self _ _ _ | (refine (hU_ne (by omega)).trans ?_; first | assumption | exact hU_self _ _ _)))) (by exact rfl) ?_
        refine qV_iload_n (pc := 19) 1 dX6_keep_19 rfl rfl ?_
        refine qV_aald (pc := 20) rfl dX6_keep_20 i1 (by omega) ?_
        rw [i2 x.toNat (by omega) eI, show va_rf none = Value.null from rfl]
        refine qV_astore_nN (pc := 21) 2 dX6_keep_21 rfl (le_b rfl) (le_b rfl) rfl ?_
        refine qV_aload_nN (pc := 22) 2 dX6_keep_22 rfl rfl ?_
        refine qV_ifnonnullN (pc := 23) dX6_keep_23 ?_
        refine qV_new (pc := 26) [.null, .null, .null, vI 0] kX2 lk_X6_9 wb_X2 wn_X2 (by intro j hj; rcases (show j = 0 ∨ j = 1 ∨ j = 2 ∨ j = 3 by omega) with rfl | rfl | rfl | rfl <;> rfl) dX6_keep_26 (le_b rfl) (le_b rfl) ?_
        refine qV_dup (pc := 29) dX6_keep_29 rfl ?_
        refine qV_bipush (pc := 30) dX6_keep_30 rfl ?_
        refine qV_voI (pc := 32) (c_Page_init (B := 120) rfl (by omega) (hU_self _ _ _) rfl) nX2_init lk_X6_11 dX6_keep_32 ⟨le_b rfl, le_b rfl⟩ ⟨le_b rfl, le_b rfl⟩ rfl (le_b rfl) ?_
        rintro h2 _ ⟨e2, f2, rfl⟩
        have g2 : Fr h h2 sz (sz + 7) := (Fr.hU (by omega) (by omega)).trans f2
        have b1 : h2 (v + 95) = some (rA 2 2 f) := (g2 _ (by omega)).trans i1
        obtain ⟨h3, hh3⟩ : ∃ h3, hU h2 (v + 95) (rA 2 2 (va_up f x.toNat (some sz))) = h3 := ⟨_, rfl⟩
        have g3 : Fr h2 h3 (v + 95) (v + 96) := by rw [← hh3]; exact Fr.hU (by omega) (by omega)
        have b3 : h3 (v + 95) = some (rA 2 2 (va_up f x.toNat (some sz))) := by rw [← hh3]; exact hU_self _ _ _
        have ho2 := (g2 _ (by omega)).trans ho
        have ho3 := (g3 _ (by omega)).trans ho2
        have e3 := e2.fr g3 (by omega)
        have e31 := e3.1
        have hP3 := (hP.fr g2 (by omega)).fr g3 (by omega)
        have hP31 := hP3.1
        have hpb3 := hP3.2.1
        refine qV_astore_n (pc := 35) 2 dX6_keep_35 rfl (le_b rfl) (le_b rfl) rfl ?_
        refine qV_aload_n (pc := 36) 0 dX6_keep_36 rfl rfl ?_
        refine qV_get (pc := 37) kX6 5 (le_b rfl) lk_X6_46 rfl dX6_keep_37 (by first | assumption | exact hU_self _ _ _ | (refine (hU_ne (by omega)).trans ?_; first | assumption | exact hU_self _ _ _ | (refine (hU_ne (by omega)).trans ?_; first | assumption | exact hU_self _ _ _ | (refine (hU_ne (by omega)).trans ?_; first | assumption | exact hU_self _ _ _)))) (by exact rfl) ?_
        refine qV_iload_n (pc := 40) 1 dX6_keep_40 rfl rfl ?_
        refine qV_aload_n (pc := 41) 2 dX6_keep_41 rfl rfl ?_
        refine qV_aast (pc := 42) kX2 rfl dX6_keep_42 b1 e2.1 (by omega) ?_
        refine qV_heap ?_ hh3 rfl
        refine qV_aload_n (pc := 43) 2 dX6_keep_43 rfl rfl ?_
        refine qV_aload_n (pc := 44) 0 dX6_keep_44 rfl rfl ?_
        refine qV_get (pc := 45) kX6 0 (le_b rfl) lk_X6_14 rfl dX6_keep_45 (by first | assumption | exact hU_self _ _ _ | (refine (hU_ne (by omega)).trans ?_; first | assumption | exact hU_self _ _ _ | (refine (hU_ne (by omega)).trans ?_; first | assumption | exact hU_self _ _ _ | (refine (hU_ne (by omega)).trans ?_; first | assumption | exact hU_self _ _ _)))) (by exact rfl) ?_
        refine qV_voV (pc := 48) (c_becomes e3 hP3 (by omega) (by omega) (by omega)) nX2_becomes kX2 lk_X6_173 dX6_keep_48 (by first | assumption | exact hU_self _ _ _ | (refine (hU_ne (by omega)).trans ?_; first | assumption | exact hU_self _ _ _ | (refine (hU_ne (by omega)).trans ?_; first | assumption | exact hU_self _ _ _ | (refine (hU_ne (by omega)).trans ?_; first | assumption | exact hU_self _ _ _)))) ⟨le_b rfl, le_b rfl⟩ ⟨le_b rfl, le_b rfl⟩ rfl (le_b rfl) ?_
        rintro h4 _ ⟨e4, f4, rfl⟩
        have ho4 := (f4 _ (by omega)).trans ho3
        have hP41 := (f4 _ (by omega)).trans hP31
        have hpb4 := hpb3.fr f4 (by omega)
        refine qV_aload_n (pc := 51) 0 dX6_keep_51 rfl rfl ?_
        refine qV_get (pc := 52) kX6 0 (le_b rfl) lk_X6_14 rfl dX6_keep_52 (by first | assumption | exact hU_self _ _ _ | (refine (hU_ne (by omega)).trans ?_; first | assumption | exact hU_self _ _ _ | (refine (hU_ne (by omega)).trans ?_; first | assumption | exact hU_self _ _ _ | (refine (hU_ne (by omega)).trans ?_; first | assumption | exact hU_self _ _ _)))) (by exact rfl) ?_
        refine qV_get (pc := 55) kX2 0 (le_b rfl) lk_X6_65 rfl dX6_keep_55 (by first | assumption | exact hU_self _ _ _ | (refine (hU_ne (by omega)).trans ?_; first | assumption | exact hU_self _ _ _ | (refine (hU_ne (by omega)).trans ?_; first | assumption | exact hU_self _ _ _ | (refine (hU_ne (by omega)).trans ?_; first | assumption | exact hU_self _ _ _)))) (by exact rfl) ?_
        refine qV_rdV (pc := 58) (c_size hpb4) nX3_size kX3 lk_X6_50 dX6_keep_58 hpb4.obj ⟨le_b rfl, le_b rfl⟩ ⟨le_b rfl, le_b rfl⟩ rfl (le_b rfl) ?_
        refine qV_iret (pc := 61) dX6_keep_61 rfl (le_b rfl) (le_b rfl) ?_
        have e0 : oKeep X x = ((X.1.1 : Int), (X.1, X.2.1, X.2.2.1, X.2.2.2.1, va_up X.2.2.2.2 x.toNat (some X.1))) := by simp only [oKeep]; rw [if_neg (by omega)]
        have him : Imgs h4 (sz + 7) v (va_up X.2.2.2.2 x.toNat (some X.1)) := by
          refine ⟨va_up f x.toNat (some sz), (f4 _ (by omega)).trans b3, fun j hj hn => ?_, fun j Q hj hQ => ?_, fun a b ha hb => ?_⟩
          · by_cases e : j = x.toNat
            · rw [e, va_up_self] at hn; cases hn
            · rw [va_up_ne _ _ e] at hn ⊢; exact i2 j hj hn
          · by_cases e : j = x.toNat
            · rw [e, va_up_self] at hQ
              cases hQ
              exact ⟨sz, by rw [e, va_up_self], by omega, by omega, e4⟩
            · rw [va_up_ne _ _ e] at hQ ⊢
              obtain ⟨a, a1, a2, a3, a4⟩ := i3 j Q hj hQ
              exact ⟨a, a1, a2, by omega, ((a4.fr g2 (by omega)).fr g3 (by omega)).fr f4 (by omega)⟩
          · by_cases e : x.toNat = 0
            · rw [e] at ha hb
              rw [va_up_self] at ha
              rw [va_up_ne _ _ (by omega)] at hb
              cases ha
              have := hold 1 b (by omega) hb
              omega
            · have e1 : x.toNat = 1 := by omega
              rw [e1] at ha hb
              rw [va_up_self] at hb
              rw [va_up_ne _ _ (by omega)] at ha
              cases hb
              have := hold 0 a (by omega) ha
              omega
        have him2 : Imgs h2 (sz + 7) v X.2.2.2.2 := ⟨f, b1, i2, fun j Q hj hQ => by
          obtain ⟨a, a1, a2, a3, a4⟩ := i3 j Q hj hQ
          exact ⟨a, a1, a2, by omega, a4.fr g2 (by omega)⟩, i4⟩
        have him3 : Imgs h3 (sz + 7) v (fun _ => none) → True := fun _ => trivial
        have cA := c0.far g2 (by omega) him2 (by omega)
        obtain ⟨a1, a2, ⟨s, a3⟩, a4, a5, a6, -, a8⟩ := cA
        have cC : CInv h4 (sz + 7) v (X.1, X.2.1, X.2.2.1, X.2.2.2.1, va_up X.2.2.2.2 x.toNat (some X.1)) := ⟨ho4, (a2.fr g3 (by omega)).fr f4 (by omega), ⟨s, (a3.fr g3 (by omega)).fr f4 (by omega)⟩, (a4.fr g3 (by omega)).fr f4 (by omega), (a5.fr g3 (by omega)).fr f4 (by omega), (a6.fr g3 (by omega)).fr f4 (by omega), him, by omega⟩
        exact ⟨_, rfl, by rw [e0], by rw [e0]; exact cC, ((Kp.of g2 (by omega)).trans (Kp.of g3 (by omega))).trans (Kp.of f4 (by omega)), by omega⟩
      | some Q =>
        obtain ⟨a, a1, a2, a3, a4⟩ := i3 x.toNat Q (by omega) eI
        have a41 := a4.1
        refine qV_aload_n (pc := 15) 0 dX6_keep_15 rfl rfl ?_
        refine qV_get (pc := 16) kX6 5 (le_b rfl) lk_X6_46 rfl dX6_keep_16 (by first | assumption | exact hU_self _ _ _ | (refine (hU_ne (by omega)).trans ?_; first | assumption | exact hU_self _ _ _ | (refine (hU_ne (by omega)).trans ?_; first | assumption | exact hU_self _ _ _ | (refine (hU_ne (by omega)).trans ?_; first | assumption | exact hU_self _ _ _)))) (by exact rfl) ?_
        refine qV_iload_n (pc := 19) 1 dX6_keep_19 rfl rfl ?_
        refine qV_aald (pc := 20) rfl dX6_keep_20 i1 (by omega) ?_
        rw [a1, show va_rf (some a) = Value.ref a from rfl]
        refine qV_astore_n (pc := 21) 2 dX6_keep_21 rfl (le_b rfl) (le_b rfl) rfl ?_
        refine qV_aload_n (pc := 22) 2 dX6_keep_22 rfl rfl ?_
        refine qV_ifnonnull (pc := 23) 43 dX6_keep_23 (by decide) ?_
        refine qV_aload_n (pc := 43) 2 dX6_keep_43 rfl rfl ?_
        refine qV_aload_n (pc := 44) 0 dX6_keep_44 rfl rfl ?_
        refine qV_get (pc := 45) kX6 0 (le_b rfl) lk_X6_14 rfl dX6_keep_45 (by first | assumption | exact hU_self _ _ _ | (refine (hU_ne (by omega)).trans ?_; first | assumption | exact hU_self _ _ _ | (refine (hU_ne (by omega)).trans ?_; first | assumption | exact hU_self _ _ _ | (refine (hU_ne (by omega)).trans ?_; first | assumption | exact hU_self _ _ _)))) (by exact rfl) ?_
        refine qV_voV (pc := 48) (c_becomes a4 hP (by omega) (by omega) (by omega)) nX2_becomes kX2 lk_X6_173 dX6_keep_48 (by first | assumption | exact hU_self _ _ _ | (refine (hU_ne (by omega)).trans ?_; first | assumption | exact hU_self _ _ _ | (refine (hU_ne (by omega)).trans ?_; first | assumption | exact hU_self _ _ _ | (refine (hU_ne (by omega)).trans ?_; first | assumption | exact hU_self _ _ _)))) ⟨le_b rfl, le_b rfl⟩ ⟨le_b rfl, le_b rfl⟩ rfl (le_b rfl) ?_
        rintro h4 sz ⟨e4, f4, rfl⟩
        have ho4 := (f4 _ (by omega)).trans ho
        have hP41 := (f4 _ (by omega)).trans hp1
        have hpb4 := hpb.fr f4 (by omega)
        refine qV_aload_n (pc := 51) 0 dX6_keep_51 rfl rfl ?_
        refine qV_get (pc := 52) kX6 0 (le_b rfl) lk_X6_14 rfl dX6_keep_52 (by first | assumption | exact hU_self _ _ _ | (refine (hU_ne (by omega)).trans ?_; first | assumption | exact hU_self _ _ _ | (refine (hU_ne (by omega)).trans ?_; first | assumption | exact hU_self _ _ _ | (refine (hU_ne (by omega)).trans ?_; first | assumption | exact hU_self _ _ _)))) (by exact rfl) ?_
        refine qV_get (pc := 55) kX2 0 (le_b rfl) lk_X6_65 rfl dX6_keep_55 (by first | assumption | exact hU_self _ _ _ | (refine (hU_ne (by omega)).trans ?_; first | assumption | exact hU_self _ _ _ | (refine (hU_ne (by omega)).trans ?_; first | assumption | exact hU_self _ _ _ | (refine (hU_ne (by omega)).trans ?_; first | assumption | exact hU_self _ _ _)))) (by exact rfl) ?_
        refine qV_rdV (pc := 58) (c_size hpb4) nX3_size kX3 lk_X6_50 dX6_keep_58 hpb4.obj ⟨le_b rfl, le_b rfl⟩ ⟨le_b rfl, le_b rfl⟩ rfl (le_b rfl) ?_
        refine qV_iret (pc := 61) dX6_keep_61 rfl (le_b rfl) (le_b rfl) ?_
        have e0 : oKeep X x = ((X.1.1 : Int), (X.1, X.2.1, X.2.2.1, X.2.2.2.1, va_up X.2.2.2.2 x.toNat (some X.1))) := by simp only [oKeep]; rw [if_neg (by omega)]
        have him : Imgs h4 sz v (va_up X.2.2.2.2 x.toNat (some X.1)) := by
          refine ⟨f, (f4 _ (by omega)).trans i1, fun j hj hn => ?_, fun j Q hj hQ => ?_, i4⟩
          · by_cases e : j = x.toNat
            · rw [e, va_up_self] at hn; cases hn
            · rw [va_up_ne _ _ e] at hn; exact i2 j hj hn
          · by_cases e : j = x.toNat
            · rw [e, va_up_self] at hQ
              cases hQ
              exact ⟨a, by rw [e]; exact a1, a2, a3, e4⟩
            · rw [va_up_ne _ _ e] at hQ
              obtain ⟨b, b1, b2, b3, b4⟩ := i3 j Q hj hQ
              have hdis : a + 7 ≤ b ∨ b + 7 ≤ a := by
                by_cases e5 : x.toNat = 0
                · rw [e5] at a1
                  rw [show j = 1 by omega] at b1
                  exact i4 a b a1 b1
                · rw [show x.toNat = 1 by omega] at a1
                  rw [show j = 0 by omega] at b1
                  exact (i4 b a b1 a1).symm
              exact ⟨b, b1, b2, b3, b4.fr f4 (by omega)⟩
        have cC := c0.far f4 (by omega) him hv
        exact ⟨_, rfl, by rw [e0], by rw [e0]; exact cC, Kp.of f4 (by omega), Nat.le_refl _⟩
    · refine qV_iconst (pc := 13) dX6_keep_13 ?_
      refine qV_iret (pc := 14) dX6_keep_14 rfl (le_b rfl) (le_b rfl) ?_
      have e0 : oKeep X x = (-1, X) := if_pos (by omega)
      exact ⟨_, rfl, by rw [e0], by rw [e0]; exact hI, Kp.rf, Nat.le_refl _⟩
set_option maxRecDepth 100000 in
set_option maxHeartbeats 4000000 in
theorem v_back {x : Int} (hx : iR x) (hI : CInv h sz v X) (wx : wfX X) : qRt l mX6_back 0 0 [.ref v, vI x] h sz (fun w h' sz' => w = vI (oBack X x).1 ∧ CInv h' sz' v (oBack X x).2 ∧ Kp h h' v ∧ sz' = sz) := by
  have c0 : CG h sz v X.1 X.1.1 X.1.2.1 X.2.1 X.2.2.1 X.2.2.2.1 X.2.2.2.2 := hI
  have k0 : Kp h h v := Kp.rf
  obtain ⟨ho, hP, ⟨s0, hS⟩, ht, hg, hy, hi, hv⟩ := id c0
  obtain ⟨hp1, hpb, hpc, hpm⟩ := id hP
  have hs1 := hS.1
  obtain ⟨_, _, -, -, hg1, -⟩ := id hg
  obtain ⟨_, _, -, hy1, -⟩ := id hy
  obtain ⟨wP, wT, wS, wz, wH, wy, wI⟩ := id wx
  obtain ⟨⟨w1, w2, w3, w4, w5, w6, w7⟩, w8⟩ := id wP
  have wcl := wP.1.c_le
  obtain ⟨f, i1, i2, i3, i4⟩ := id hi
  have hold : ∀ (j b : Nat), j < 2 → f j = some b → v + 106 ≤ b ∧ b + 7 ≤ sz := fun j b hj hb => by
    cases e : X.2.2.2.2 j with
    | none => rw [i2 j hj e] at hb; cases hb
    | some Q =>
      obtain ⟨a, a1, a2, a3, -⟩ := i3 j Q hj e
      rw [a1] at hb
      cases hb
      exact ⟨a2, a3⟩
  obtain ⟨x1, x2⟩ := hx
  refine qC.of 1 (by decide) (le_b rfl) ?_
  refine qV_iload_n (pc := 0) 1 dX6_back_0 rfl rfl ?_
  refine qV_iflt (pc := 1) 13 dX6_back_1 (by decide) ⟨by omega, by omega⟩ (fun c1 => ?_) (fun c1 => ?_)
  · refine qV_iconst (pc := 13) dX6_back_13 ?_
    refine qV_iret (pc := 14) dX6_back_14 rfl (le_b rfl) (le_b rfl) ?_
    have e0 : oBack X x = (-1, X) := if_pos (by omega)
    exact ⟨_, rfl, by rw [e0], by rw [e0]; exact hI, Kp.rf, rfl⟩
  · refine qV_iload_n (pc := 4) 1 dX6_back_4 rfl rfl ?_
    refine qV_aload_n (pc := 5) 0 dX6_back_5 rfl rfl ?_
    refine qV_get (pc := 6) kX6 5 (le_b rfl) lk_X6_46 rfl dX6_back_6 (by first | assumption | exact hU_self _ _ _ | (refine (hU_ne (by omega)).trans ?_; first | assumption | exact hU_self _ _ _ | (refine (hU_ne (by omega)).trans ?_; first | assumption | exact hU_self _ _ _ | (refine (hU_ne (by omega)).trans ?_; first | assumption | exact hU_self _ _ _)))) (by exact rfl) ?_
    refine qV_alenR (pc := 9) dX6_back_9 (by first | assumption | exact hU_self _ _ _ | (refine (hU_ne (by omega)).trans ?_; first | assumption | exact hU_self _ _ _ | (refine (hU_ne (by omega)).trans ?_; first | assumption | exact hU_self _ _ _ | (refine (hU_ne (by omega)).trans ?_; first | assumption | exact hU_self _ _ _)))) ?_
    refine qV_icmp_lt (pc := 10) 15 dX6_back_10 (by decide) ⟨by omega, by omega⟩ ⟨by omega, by omega⟩ (fun c10 => ?_) (fun c10 => ?_)
    · cases eI : X.2.2.2.2 x.toNat with
      | none =>
        refine qV_aload_n (pc := 15) 0 dX6_back_15 rfl rfl ?_
        refine qV_get (pc := 16) kX6 5 (le_b rfl) lk_X6_46 rfl dX6_back_16 (by first | assumption | exact hU_self _ _ _ | (refine (hU_ne (by omega)).trans ?_; first | assumption | exact hU_self _ _ _ | (refine (hU_ne (by omega)).trans ?_; first | assumption | exact hU_self _ _ _ | (refine (hU_ne (by omega)).trans ?_; first | assumption | exact hU_self _ _ _)))) (by exact rfl) ?_
        refine qV_iload_n (pc := 19) 1 dX6_back_19 rfl rfl ?_
        refine qV_aald (pc := 20) rfl dX6_back_20 i1 (by omega) ?_
        rw [i2 x.toNat (by omega) eI, show va_rf none = Value.null from rfl]
        refine qV_astore_nN (pc := 21) 2 dX6_back_21 rfl (le_b rfl) (le_b rfl) rfl ?_
        refine qV_aload_nN (pc := 22) 2 dX6_back_22 rfl rfl ?_
        refine qV_ifnonnullN (pc := 23) dX6_back_23 ?_
        refine qV_bipush (pc := 26) dX6_back_26 rfl ?_
        refine qV_iret (pc := 28) dX6_back_28 rfl (le_b rfl) (le_b rfl) ?_
        have e0 : oBack X x = (-2, X) := by simp only [oBack]; rw [if_neg (by omega), eI]
        exact ⟨_, rfl, by rw [e0], by rw [e0]; exact hI, Kp.rf, rfl⟩
      | some Q =>
        obtain ⟨a, a1, a2, a3, a4⟩ := i3 x.toNat Q (by omega) eI
        have a41 := a4.1
        have wQ := wI x.toNat Q eI
        refine qV_aload_n (pc := 15) 0 dX6_back_15 rfl rfl ?_
        refine qV_get (pc := 16) kX6 5 (le_b rfl) lk_X6_46 rfl dX6_back_16 (by first | assumption | exact hU_self _ _ _ | (refine (hU_ne (by omega)).trans ?_; first | assumption | exact hU_self _ _ _ | (refine (hU_ne (by omega)).trans ?_; first | assumption | exact hU_self _ _ _ | (refine (hU_ne (by omega)).trans ?_; first | assumption | exact hU_self _ _ _)))) (by exact rfl) ?_
        refine qV_iload_n (pc := 19) 1 dX6_back_19 rfl rfl ?_
        refine qV_aald (pc := 20) rfl dX6_back_20 i1 (by omega) ?_
        rw [a1, show va_rf (some a) = Value.ref a from rfl]
        refine qV_astore_n (pc := 21) 2 dX6_back_21 rfl (le_b rfl) (le_b rfl) rfl ?_
        refine qV_aload_n (pc := 22) 2 dX6_back_22 rfl rfl ?_
        refine qV_ifnonnull (pc := 23) 29 dX6_back_23 (by decide) ?_
        refine qV_aload_n (pc := 29) 0 dX6_back_29 rfl rfl ?_
        refine qV_get (pc := 30) kX6 0 (le_b rfl) lk_X6_14 rfl dX6_back_30 (by first | assumption | exact hU_self _ _ _ | (refine (hU_ne (by omega)).trans ?_; first | assumption | exact hU_self _ _ _ | (refine (hU_ne (by omega)).trans ?_; first | assumption | exact hU_self _ _ _ | (refine (hU_ne (by omega)).trans ?_; first | assumption | exact hU_self _ _ _)))) (by exact rfl) ?_
        refine qV_aload_n (pc := 33) 2 dX6_back_33 rfl rfl ?_
        refine qV_voV (pc := 34) (c_becomes hP a4 (by have := wQ.1.1; omega) (by have := wQ.1.c_le; have := wQ.1.1; omega) (by omega)) nX2_becomes kX2 lk_X6_173 dX6_back_34 (by first | assumption | exact hU_self _ _ _ | (refine (hU_ne (by omega)).trans ?_; first | assumption | exact hU_self _ _ _ | (refine (hU_ne (by omega)).trans ?_; first | assumption | exact hU_self _ _ _ | (refine (hU_ne (by omega)).trans ?_; first | assumption | exact hU_self _ _ _)))) ⟨le_b rfl, le_b rfl⟩ ⟨le_b rfl, le_b rfl⟩ rfl (le_b rfl) ?_
        rintro h2 sz ⟨q1, f1, rfl⟩
        have c1 := c0.text f1 q1
        have k1 := k0.trans (Kp.of f1 (by omega))
        obtain ⟨ho, hP, ⟨s1, hS⟩, ht, hg, hy, hi, hv⟩ := id c1
        obtain ⟨hp1, hpb, hpc, hpm⟩ := id hP
        have hs1 := hS.1
        obtain ⟨_, _, -, -, hg1, -⟩ := id hg
        obtain ⟨_, _, -, hy1, -⟩ := id hy
        refine qV_aload_n (pc := 37) 0 dX6_back_37 rfl rfl ?_
        refine qV_get (pc := 38) kX6 4 (le_b rfl) lk_X6_42 rfl dX6_back_38 (by first | assumption | exact hU_self _ _ _ | (refine (hU_ne (by omega)).trans ?_; first | assumption | exact hU_self _ _ _ | (refine (hU_ne (by omega)).trans ?_; first | assumption | exact hU_self _ _ _ | (refine (hU_ne (by omega)).trans ?_; first | assumption | exact hU_self _ _ _)))) (by exact rfl) ?_
        refine qV_voV (pc := 41) (c_forgets X.2.2.2.1.1 hy) nX1_forgets kX1 lk_X6_176 dX6_back_41 (by first | assumption | exact hU_self _ _ _ | (refine (hU_ne (by omega)).trans ?_; first | assumption | exact hU_self _ _ _ | (refine (hU_ne (by omega)).trans ?_; first | assumption | exact hU_self _ _ _ | (refine (hU_ne (by omega)).trans ?_; first | assumption | exact hU_self _ _ _)))) ⟨le_b rfl, le_b rfl⟩ ⟨le_b rfl, le_b rfl⟩ rfl (le_b rfl) ?_
        rintro h3 sz ⟨q2, f2, rfl⟩
        have c2 := c1.hst f2 q2
        have k2 := k1.trans (Kp.of f2 (by omega))
        obtain ⟨ho, hP, ⟨s2, hS⟩, ht, hg, hy, hi, hv⟩ := id c2
        obtain ⟨hp1, hpb, hpc, hpm⟩ := id hP
        have hs1 := hS.1
        obtain ⟨_, _, -, -, hg1, -⟩ := id hg
        obtain ⟨_, _, -, hy1, -⟩ := id hy
        refine qV_aload_n (pc := 44) 0 dX6_back_44 rfl rfl ?_
        refine qV_get (pc := 45) kX6 3 (le_b rfl) lk_X6_35 rfl dX6_back_45 (by first | assumption | exact hU_self _ _ _ | (refine (hU_ne (by omega)).trans ?_; first | assumption | exact hU_self _ _ _ | (refine (hU_ne (by omega)).trans ?_; first | assumption | exact hU_self _ _ _ | (refine (hU_ne (by omega)).trans ?_; first | assumption | exact hU_self _ _ _)))) (by exact rfl) ?_
        refine qV_voV (pc := 48) (c_Stg_empties X.2.2.1.1 hg) nX4_empties kX4 lk_X6_92 dX6_back_48 (by first | assumption | exact hU_self _ _ _ | (refine (hU_ne (by omega)).trans ?_; first | assumption | exact hU_self _ _ _ | (refine (hU_ne (by omega)).trans ?_; first | assumption | exact hU_self _ _ _ | (refine (hU_ne (by omega)).trans ?_; first | assumption | exact hU_self _ _ _)))) ⟨le_b rfl, le_b rfl⟩ ⟨le_b rfl, le_b rfl⟩ rfl (le_b rfl) ?_
        rintro h4 sz ⟨q3, f3, rfl⟩
        have c3 := c2.stg f3 q3
        have k3 := k2.trans (Kp.of f3 (by omega))
        obtain ⟨ho, hP, ⟨s3, hS⟩, ht, hg, hy, hi, hv⟩ := id c3
        obtain ⟨hp1, hpb, hpc, hpm⟩ := id hP
        have hs1 := hS.1
        obtain ⟨_, _, -, -, hg1, -⟩ := id hg
        obtain ⟨_, _, -, hy1, -⟩ := id hy
        refine qV_aload_n (pc := 51) 0 dX6_back_51 rfl rfl ?_
        refine qV_get (pc := 52) kX6 1 (le_b rfl) lk_X6_21 rfl dX6_back_52 (by first | assumption | exact hU_self _ _ _ | (refine (hU_ne (by omega)).trans ?_; first | assumption | exact hU_self _ _ _ | (refine (hU_ne (by omega)).trans ?_; first | assumption | exact hU_self _ _ _ | (refine (hU_ne (by omega)).trans ?_; first | assumption | exact hU_self _ _ _)))) (by exact rfl) ?_
        refine qV_aload_n (pc := 55) 0 dX6_back_55 rfl rfl ?_
        refine qV_get (pc := 56) kX6 0 (le_b rfl) lk_X6_14 rfl dX6_back_56 (by first | assumption | exact hU_self _ _ _ | (refine (hU_ne (by omega)).trans ?_; first | assumption | exact hU_self _ _ _ | (refine (hU_ne (by omega)).trans ?_; first | assumption | exact hU_self _ _ _ | (refine (hU_ne (by omega)).trans ?_; first | assumption | exact hU_self _ _ _)))) (by exact rfl) ?_
        refine qV_get (pc := 59) kX2 0 (le_b rfl) lk_X6_65 rfl dX6_back_59 (by first | assumption | exact hU_self _ _ _ | (refine (hU_ne (by omega)).trans ?_; first | assumption | exact hU_self _ _ _ | (refine (hU_ne (by omega)).trans ?_; first | assumption | exact hU_self _ _ _ | (refine (hU_ne (by omega)).trans ?_; first | assumption | exact hU_self _ _ _)))) (by exact rfl) ?_
        refine qV_voV (pc := 62) (c_measures hS hpb wQ.1.1 wQ.1.2.1 (by omega)) nX5_measures kX5 lk_X6_76 dX6_back_62 (by first | assumption | exact hU_self _ _ _ | (refine (hU_ne (by omega)).trans ?_; first | assumption | exact hU_self _ _ _ | (refine (hU_ne (by omega)).trans ?_; first | assumption | exact hU_self _ _ _ | (refine (hU_ne (by omega)).trans ?_; first | assumption | exact hU_self _ _ _)))) ⟨le_b rfl, le_b rfl⟩ ⟨le_b rfl, le_b rfl⟩ rfl (le_b rfl) ?_
        rintro h5 sz ⟨q4, f4, rfl⟩
        have c4 := c3.sums f4 q4
        have k4 := k3.trans (Kp.of f4 (by omega))
        obtain ⟨ho, hP, ⟨s4, hS⟩, ht, hg, hy, hi, hv⟩ := id c4
        obtain ⟨hp1, hpb, hpc, hpm⟩ := id hP
        have hs1 := hS.1
        obtain ⟨_, _, -, -, hg1, -⟩ := id hg
        obtain ⟨_, _, -, hy1, -⟩ := id hy
        refine qV_aload_n (pc := 65) 0 dX6_back_65 rfl rfl ?_
        refine qV_get (pc := 66) kX6 0 (le_b rfl) lk_X6_14 rfl dX6_back_66 (by first | assumption | exact hU_self _ _ _ | (refine (hU_ne (by omega)).trans ?_; first | assumption | exact hU_self _ _ _ | (refine (hU_ne (by omega)).trans ?_; first | assumption | exact hU_self _ _ _ | (refine (hU_ne (by omega)).trans ?_; first | assumption | exact hU_self _ _ _)))) (by exact rfl) ?_
        refine qV_get (pc := 69) kX2 0 (le_b rfl) lk_X6_65 rfl dX6_back_69 (by first | assumption | exact hU_self _ _ _ | (refine (hU_ne (by omega)).trans ?_; first | assumption | exact hU_self _ _ _ | (refine (hU_ne (by omega)).trans ?_; first | assumption | exact hU_self _ _ _ | (refine (hU_ne (by omega)).trans ?_; first | assumption | exact hU_self _ _ _)))) (by exact rfl) ?_
        refine qV_rdV (pc := 72) (c_size hpb) nX3_size kX3 lk_X6_50 dX6_back_72 hpb.obj ⟨le_b rfl, le_b rfl⟩ ⟨le_b rfl, le_b rfl⟩ rfl (le_b rfl) ?_
        refine qV_iret (pc := 75) dX6_back_75 rfl (le_b rfl) (le_b rfl) ?_
        have e0 : oBack X x = ((Q.1 : Int), (Q, X.2.1, (X.2.2.1.1, 0), (X.2.2.2.1.1, 0), X.2.2.2.2)) := by simp only [oBack]; rw [if_neg (by omega), eI]
        exact ⟨_, rfl, by rw [e0], by rw [e0]; exact c4, k4, rfl⟩
    · refine qV_iconst (pc := 13) dX6_back_13 ?_
      refine qV_iret (pc := 14) dX6_back_14 rfl (le_b rfl) (le_b rfl) ?_
      have e0 : oBack X x = (-1, X) := if_pos (by omega)
      exact ⟨_, rfl, by rw [e0], by rw [e0]; exact hI, Kp.rf, rfl⟩
def X0 : XS := ((0, (fun _ => 0), 0, (fun _ => 0), (fun _ => -9), 0), (0, fun _ => 0), ((fun _ => (0, 0, 0, fun _ => 0)), 0), ((fun _ => (0, (fun _ => 0), 0, (fun _ => 0), (fun _ => -9), 0)), 0), fun _ => none)
theorem wf_X0 : wfX X0 := by
  refine ⟨⟨⟨Nat.zero_le _, fun j hj => absurd hj (Nat.not_lt_zero j), fun j hj => absurd hj (Nat.not_lt_zero j), rfl, fun j hj => Or.inl rfl, Int.le_refl _, Int.le_refl _⟩, by decide⟩, ⟨Nat.zero_le _, fun j hj => absurd hj (Nat.not_lt_zero j)⟩, okS_0, Nat.zero_le _, fun j hj => absurd hj (Nat.not_lt_zero j), Nat.zero_le _, fun i Q h => ?_⟩
  simp [X0] at h
set_option maxRecDepth 100000 in
set_option maxHeartbeats 4000000 in
theorem v_init (h1 : h v = some (oB 6 [.null, .null, .null, .null, .null, .null])) (hs : sz = v + 1) : qVo l mX6_init 95 3582 [.ref v] h sz (fun h' sz' => h' v = some (vob v) ∧ Page h' (v + 1) 216 X0.1 ∧ (∃ s, Sums h' (v + 8) X0.1.1 X0.1.2.1 s) ∧ Row h' (v + 21) 24 X0.2.1.1 X0.2.1.2 ∧ Stg h' (v + 23) X0.2.2.1.1 X0.2.2.1.2 ∧ Hst h' (v + 37) X0.2.2.2.1.1 X0.2.2.2.1.2 ∧ (∀ sz2, Imgs h' sz2 v X0.2.2.2.2) ∧ Fr h h' v (v + 96) ∧ sz' = v + 96) := by
  subst hs
  refine qC.of 0 (by decide) (le_b rfl) ?_
  refine qV_aload_n (pc := 0) 0 dX6_init_0 rfl rfl ?_
  refine qV_objinit (pc := 1) lk_X6_3 dX6_init_1 (le_b rfl) (le_b rfl) ?_
  refine qV_aload_n (pc := 4) 0 dX6_init_4 rfl rfl ?_
  refine qV_new (pc := 5) [.null, .null, .null, vI 0] kX2 lk_X6_9 wb_X2 wn_X2 (by intro j hj; rcases (show j = 0 ∨ j = 1 ∨ j = 2 ∨ j = 3 by omega) with rfl | rfl | rfl | rfl <;> rfl) dX6_init_5 (le_b rfl) (le_b rfl) ?_
  refine qV_dup (pc := 8) dX6_init_8 rfl ?_
  refine qV_sipush (pc := 9) dX6_init_9 rfl ?_
  refine qV_voI (pc := 12) (c_Page_init (B := 216) rfl (by omega) (hU_self _ _ _) rfl) nX2_init lk_X6_11 dX6_init_12 ⟨le_b rfl, le_b rfl⟩ ⟨le_b rfl, le_b rfl⟩ rfl (le_b rfl) ?_
  rintro g1 _ ⟨r0, f0, rfl⟩
  have o1 : g1 v = some (oB 6 [.null, .null, .null, .null, .null, .null]) := (f0 v (by omega)).trans ((hU_ne (by omega)).trans h1)
  have e0 : Fr h g1 v (v + 96) := (Fr.hU (lo := v) (hi := v + 96) (by omega) (by omega)).trans (f0.wide (by omega) (by omega))
  refine qV_putF (pc := 15) kX6 0 (le_b rfl) lk_X6_14 rfl rfl rfl rfl rfl rfl dX6_init_15 (by first | assumption | exact hU_self _ _ _ | (refine (hU_ne (by omega)).trans ?_; first | assumption | exact hU_self _ _ _ | (refine (hU_ne (by omega)).trans ?_; first | assumption | exact hU_self _ _ _ | (refine (hU_ne (by omega)).trans ?_; first | assumption | exact hU_self _ _ _)))) (by exact le_b rfl) ?_
  refine qV_aload_n (pc := 18) 0 dX6_init_18 rfl rfl ?_
  refine qV_new (pc := 19) [.null, .null, .null, .null, .null, .null, vI 0] kX5 lk_X6_18 wb_X5 wn_X5 (by intro j hj; rcases (show j = 0 ∨ j = 1 ∨ j = 2 ∨ j = 3 ∨ j = 4 ∨ j = 5 ∨ j = 6 by omega) with rfl | rfl | rfl | rfl | rfl | rfl | rfl <;> rfl) dX6_init_19 (le_b rfl) (le_b rfl) ?_
  refine qV_dup (pc := 22) dX6_init_22 rfl ?_
  refine qV_voI (pc := 23) (c_Sums_init (fun _ => 0) (hU_self _ _ _) rfl) nX5_init lk_X6_20 dX6_init_23 ⟨le_b rfl, le_b rfl⟩ ⟨le_b rfl, le_b rfl⟩ rfl (le_b rfl) ?_
  rintro g2 _ ⟨r1, f1, rfl⟩
  have o2 : g2 v = some (oB 6 [.ref (v + 1), .null, .null, .null, .null, .null]) := (f1 v (by omega)).trans ((hU_ne (by omega)).trans (hU_self _ _ _))
  have e1 : Fr g1 g2 v (v + 96) := ((Fr.hU (lo := v) (hi := v + 96) (by omega) (by omega)).trans (Fr.hU (by omega) (by omega))).trans (f1.wide (by omega) (by omega))
  have r0 := ((r0.fr (Fr.hU (lo := v) (hi := v + 1) (by omega) (by omega)) (by omega)).fr (Fr.hU (lo := v + 8) (hi := v + 9) (by omega) (by omega)) (by omega)).fr f1 (by omega)
  refine qV_putF (pc := 26) kX6 1 (le_b rfl) lk_X6_21 rfl rfl rfl rfl rfl rfl dX6_init_26 (by first | assumption | exact hU_self _ _ _ | (refine (hU_ne (by omega)).trans ?_; first | assumption | exact hU_self _ _ _ | (refine (hU_ne (by omega)).trans ?_; first | assumption | exact hU_self _ _ _ | (refine (hU_ne (by omega)).trans ?_; first | assumption | exact hU_self _ _ _)))) (by exact le_b rfl) ?_
  refine qV_aload_n (pc := 29) 0 dX6_init_29 rfl rfl ?_
  refine qV_new (pc := 30) [.null, vI 0] kX3 lk_X6_25 wb_X3 wn_X3 (by intro j hj; rcases (show j = 0 ∨ j = 1 by omega) with rfl | rfl <;> rfl) dX6_init_30 (le_b rfl) (le_b rfl) ?_
  refine qV_dup (pc := 33) dX6_init_33 rfl ?_
  refine qV_bipush (pc := 34) dX6_init_34 rfl ?_
  refine qV_voI (pc := 36) (c_Row_init (r := v + 21) (N := 24) (fun _ => 0) rfl (by omega) (hU_self _ _ _) rfl) nX3_init lk_X6_27 dX6_init_36 ⟨le_b rfl, le_b rfl⟩ ⟨le_b rfl, le_b rfl⟩ rfl (le_b rfl) ?_
  rintro g3 _ ⟨r2, f2, rfl⟩
  have o3 : g3 v = some (oB 6 [.ref (v + 1), .ref (v + 8), .null, .null, .null, .null]) := (f2 v (by omega)).trans ((hU_ne (by omega)).trans (hU_self _ _ _))
  have e2 : Fr g2 g3 v (v + 96) := ((Fr.hU (lo := v) (hi := v + 96) (by omega) (by omega)).trans (Fr.hU (by omega) (by omega))).trans (f2.wide (by omega) (by omega))
  have r0 := ((r0.fr (Fr.hU (lo := v) (hi := v + 1) (by omega) (by omega)) (by omega)).fr (Fr.hU (lo := v + 21) (hi := v + 22) (by omega) (by omega)) (by omega)).fr f2 (by omega)
  have r1 := ((r1.fr (Fr.hU (lo := v) (hi := v + 1) (by omega) (by omega)) (by omega)).fr (Fr.hU (lo := v + 21) (hi := v + 22) (by omega) (by omega)) (by omega)).fr f2 (by omega)
  refine qV_putF (pc := 39) kX6 2 (le_b rfl) lk_X6_28 rfl rfl rfl rfl rfl rfl dX6_init_39 (by first | assumption | exact hU_self _ _ _ | (refine (hU_ne (by omega)).trans ?_; first | assumption | exact hU_self _ _ _ | (refine (hU_ne (by omega)).trans ?_; first | assumption | exact hU_self _ _ _ | (refine (hU_ne (by omega)).trans ?_; first | assumption | exact hU_self _ _ _)))) (by exact le_b rfl) ?_
  refine qV_aload_n (pc := 42) 0 dX6_init_42 rfl rfl ?_
  refine qV_new (pc := 43) [.null, vI 0] kX4 lk_X6_32 wb_X4 wn_X4 (by intro j hj; rcases (show j = 0 ∨ j = 1 by omega) with rfl | rfl <;> rfl) dX6_init_43 (le_b rfl) (le_b rfl) ?_
  refine qV_dup (pc := 46) dX6_init_46 rfl ?_
  refine qV_voI (pc := 47) (c_Stg_init (S := fun _ => (0, 0, 0, fun _ => 0)) (hU_self _ _ _) rfl) nX4_init lk_X6_34 dX6_init_47 ⟨le_b rfl, le_b rfl⟩ ⟨le_b rfl, le_b rfl⟩ rfl (le_b rfl) ?_
  rintro g4 _ ⟨r3, f3, rfl⟩
  have o4 : g4 v = some (oB 6 [.ref (v + 1), .ref (v + 8), .ref (v + 21), .null, .null, .null]) := (f3 v (by omega)).trans ((hU_ne (by omega)).trans (hU_self _ _ _))
  have e3 : Fr g3 g4 v (v + 96) := ((Fr.hU (lo := v) (hi := v + 96) (by omega) (by omega)).trans (Fr.hU (by omega) (by omega))).trans (f3.wide (by omega) (by omega))
  have r0 := ((r0.fr (Fr.hU (lo := v) (hi := v + 1) (by omega) (by omega)) (by omega)).fr (Fr.hU (lo := v + 23) (hi := v + 24) (by omega) (by omega)) (by omega)).fr f3 (by omega)
  have r1 := ((r1.fr (Fr.hU (lo := v) (hi := v + 1) (by omega) (by omega)) (by omega)).fr (Fr.hU (lo := v + 23) (hi := v + 24) (by omega) (by omega)) (by omega)).fr f3 (by omega)
  have r2 := ((r2.fr (Fr.hU (lo := v) (hi := v + 1) (by omega) (by omega)) (by omega)).fr (Fr.hU (lo := v + 23) (hi := v + 24) (by omega) (by omega)) (by omega)).fr f3 (by omega)
  refine qV_putF (pc := 50) kX6 3 (le_b rfl) lk_X6_35 rfl rfl rfl rfl rfl rfl dX6_init_50 (by first | assumption | exact hU_self _ _ _ | (refine (hU_ne (by omega)).trans ?_; first | assumption | exact hU_self _ _ _ | (refine (hU_ne (by omega)).trans ?_; first | assumption | exact hU_self _ _ _ | (refine (hU_ne (by omega)).trans ?_; first | assumption | exact hU_self _ _ _)))) (by exact le_b rfl) ?_
  refine qV_aload_n (pc := 53) 0 dX6_init_53 rfl rfl ?_
  refine qV_new (pc := 54) [.null, vI 0, vI 0] kX1 lk_X6_39 wb_X1 wn_X1 (by intro j hj; rcases (show j = 0 ∨ j = 1 ∨ j = 2 by omega) with rfl | rfl | rfl <;> rfl) dX6_init_54 (le_b rfl) (le_b rfl) ?_
  refine qV_dup (pc := 57) dX6_init_57 rfl ?_
  refine qV_voI (pc := 58) (c_Hst_init (Hs := fun _ => (0, (fun _ => 0), 0, (fun _ => 0), (fun _ => -9), 0)) (hU_self _ _ _) rfl) nX1_init lk_X6_41 dX6_init_58 ⟨le_b rfl, le_b rfl⟩ ⟨le_b rfl, le_b rfl⟩ rfl (le_b rfl) ?_
  rintro g5 _ ⟨r4, f4, rfl⟩
  have o5 : g5 v = some (oB 6 [.ref (v + 1), .ref (v + 8), .ref (v + 21), .ref (v + 23), .null, .null]) := (f4 v (by omega)).trans ((hU_ne (by omega)).trans (hU_self _ _ _))
  have e4 : Fr g4 g5 v (v + 96) := ((Fr.hU (lo := v) (hi := v + 96) (by omega) (by omega)).trans (Fr.hU (by omega) (by omega))).trans (f4.wide (by omega) (by omega))
  have r0 := ((r0.fr (Fr.hU (lo := v) (hi := v + 1) (by omega) (by omega)) (by omega)).fr (Fr.hU (lo := v + 37) (hi := v + 38) (by omega) (by omega)) (by omega)).fr f4 (by omega)
  have r1 := ((r1.fr (Fr.hU (lo := v) (hi := v + 1) (by omega) (by omega)) (by omega)).fr (Fr.hU (lo := v + 37) (hi := v + 38) (by omega) (by omega)) (by omega)).fr f4 (by omega)
  have r2 := ((r2.fr (Fr.hU (lo := v) (hi := v + 1) (by omega) (by omega)) (by omega)).fr (Fr.hU (lo := v + 37) (hi := v + 38) (by omega) (by omega)) (by omega)).fr f4 (by omega)
  have r3 := ((r3.fr (Fr.hU (lo := v) (hi := v + 1) (by omega) (by omega)) (by omega)).fr (Fr.hU (lo := v + 37) (hi := v + 38) (by omega) (by omega)) (by omega)).fr f4 (by omega)
  refine qV_putF (pc := 61) kX6 4 (le_b rfl) lk_X6_42 rfl rfl rfl rfl rfl rfl dX6_init_61 (by first | assumption | exact hU_self _ _ _ | (refine (hU_ne (by omega)).trans ?_; first | assumption | exact hU_self _ _ _ | (refine (hU_ne (by omega)).trans ?_; first | assumption | exact hU_self _ _ _ | (refine (hU_ne (by omega)).trans ?_; first | assumption | exact hU_self _ _ _)))) (by exact le_b rfl) ?_
  refine qV_aload_n (pc := 64) 0 dX6_init_64 rfl rfl ?_
  refine qV_iconst (pc := 65) dX6_init_65 ?_
  refine qV_newr (pc := 66) (kd := 2) rfl lk_X6_9 (fun D s hK => hK.2.2.2) dX6_init_66 (by omega) (le_b rfl) (le_b rfl) ?_
  refine qV_putF (pc := 69) kX6 5 (le_b rfl) lk_X6_46 rfl rfl rfl rfl rfl rfl dX6_init_69 (by first | assumption | exact hU_self _ _ _ | (refine (hU_ne (by omega)).trans ?_; first | assumption | exact hU_self _ _ _ | (refine (hU_ne (by omega)).trans ?_; first | assumption | exact hU_self _ _ _ | (refine (hU_ne (by omega)).trans ?_; first | assumption | exact hU_self _ _ _)))) (by exact le_b rfl) ?_
  refine qV_vret (pc := 72) dX6_init_72 rfl (le_b rfl) (le_b rfl) ?_
  generalize hh7 : hU _ v _ = g7
  have fa : Fr g5 g7 v (v + 1) → True := fun _ => trivial
  have hA : ∀ q, q ≠ v → q ≠ v + 95 → g7 q = g5 q := fun q q1 q2 => by rw [← hh7, hU_ne q1, hU_ne q2, hU_ne q1]
  have e6 : Fr g5 g7 v (v + 96) := fun q hq => hA q (by omega) (by omega)
  have p7 : ∀ lo hi : Nat, True := fun _ _ => trivial
  have fb : Fr g5 (hU g5 v (oB 6 [.ref (v + 1), .ref (v + 8), .ref (v + 21), .ref (v + 23), .ref (v + 37), .null])) v (v + 1) := Fr.hU (by omega) (by omega)
  have tr : ∀ {α : Prop}, α → α := fun a => a
  have o7 : g7 v = some (vob v) := by rw [← hh7]; exact hU_self _ _ _
  have i7 : g7 (v + 95) = some (rA 2 2 (fun _ => none)) := by rw [← hh7]; exact (hU_ne (by omega)).trans (hU_self _ _ _)
  obtain ⟨gA, hgA⟩ : ∃ gA : qH, gA = (fun q => if q = v then g7 v else g5 q) := ⟨_, rfl⟩
  have s1 : Fr g5 gA v (v + 1) := fun q hq => by rw [hgA]; simp only []; rw [if_neg (by omega)]
  have s2 : Fr gA g7 (v + 95) (v + 96) := fun q hq => by
    rw [hgA]
    simp only []
    by_cases e : q = v
    · rw [if_pos e, e]
    · rw [if_neg e]; exact hA q e (by omega)
  exact ⟨rfl, o7, (r0.fr s1 (by omega)).fr s2 (by omega), ⟨0, (r1.fr s1 (by omega)).fr s2 (by omega)⟩, (r2.fr s1 (by omega)).fr s2 (by omega), (r3.fr s1 (by omega)).fr s2 (by omega), (r4.fr s1 (by omega)).fr s2 (by omega), fun sz2 => ⟨fun _ => none, i7, fun _ _ _ => rfl, fun j Q _ hQ => by simp [X0] at hQ, fun a b ha => by cases ha⟩, ((((e0.trans e1).trans e2).trans e3).trans e4).trans e6, rfl⟩
end VIEW3
