/-! ===== History ===== -/
def Hst (h : qH) (y : Nat) (Hs : Nat → PG) (z : Nat) : Prop := ∃ (t : Nat) (f : Nat → Option Nat), t < 8 ∧ h y = some (oB 1 [.ref (y + 1), vI t, vI z]) ∧ h (y + 1) = some (rA 2 8 f) ∧ (∀ i, i < 8 → f i = some (y + 2 + 7 * i)) ∧ (∀ i, i < 8 → ∃ P, Page h (y + 2 + 7 * i) 120 P) ∧ (∀ i, i < z → Page h (y + 2 + 7 * ((t + 8 - i) % 8)) 120 (Hs i)) ∧ z ≤ 8
theorem Hst.fr {h h' : qH} {y lo hi z : Nat} {Hs : Nat → PG} (a : Hst h y Hs z) (b : Fr h h' lo hi) (d : y + 58 ≤ lo ∨ hi ≤ y) : Hst h' y Hs z := by
  obtain ⟨t, f, a1, a2, a3, a4, a5, a6, a7⟩ := a
  refine ⟨t, f, a1, (b y (by omega)).trans a2, (b (y + 1) (by omega)).trans a3, a4, fun i hi => ?_, fun i hi => (a6 i hi).fr b (by omega), a7⟩
  obtain ⟨P, h1⟩ := a5 i hi
  exact ⟨P, h1.fr b (by omega)⟩
theorem ob1_eq {r : Nat} {a a' b b' : Int} (e1 : a = a') (e2 : b = b') : some (oB 1 [.ref r, vI a, vI b]) = some (oB 1 [.ref r, vI a', vI b']) := by rw [e1, e2]
section HISTORY
variable {l : Launch} {h : qH} {sz y z : Nat} {Hs : Nat → PG}
set_option maxRecDepth 100000 in
set_option maxHeartbeats 4000000 in
theorem c_Hst_size (hH : Hst h y Hs z) : qRd l mX1_size [.ref y] h sz (vI z) := by
  obtain ⟨t, f, a1, a2, a3, a4, a5, a6, a7⟩ := hH
  refine qC.of 0 (by decide) (le_b rfl) ?_
  refine qV_aload_n (pc := 0) 0 dX1_size_0 rfl rfl ?_
  refine qV_get (pc := 1) kX1 2 (le_b rfl) lk_X1_20 rfl dX1_size_1 (by first | assumption | exact hU_self _ _ _ | (refine (hU_ne (by omega)).trans ?_; first | assumption | exact hU_self _ _ _ | (refine (hU_ne (by omega)).trans ?_; first | assumption | exact hU_self _ _ _ | (refine (hU_ne (by omega)).trans ?_; first | assumption | exact hU_self _ _ _)))) (by exact rfl) ?_
  refine qV_iret (pc := 4) dX1_size_4 rfl (le_b rfl) (le_b rfl) ?_
  exact ⟨rfl, rfl, rfl⟩
set_option maxRecDepth 100000 in
set_option maxHeartbeats 4000000 in
theorem c_forgets (H2 : Nat → PG) (hH : Hst h y Hs z) : qVo l mX1_forgets 0 0 [.ref y] h sz (fun h' sz' => Hst h' y H2 0 ∧ Fr h h' y (y + 58) ∧ sz' = sz) := by
  obtain ⟨t, f, a1, a2, a3, a4, a5, a6, a7⟩ := hH
  refine qC.of 0 (by decide) (le_b rfl) ?_
  refine qV_aload_n (pc := 0) 0 dX1_forgets_0 rfl rfl ?_
  refine qV_iconst (pc := 1) dX1_forgets_1 ?_
  refine qV_put (pc := 2) kX1 2 (le_b rfl) lk_X1_20 rfl rfl rfl rfl dX1_forgets_2 (by first | assumption | exact hU_self _ _ _ | (refine (hU_ne (by omega)).trans ?_; first | assumption | exact hU_self _ _ _ | (refine (hU_ne (by omega)).trans ?_; first | assumption | exact hU_self _ _ _ | (refine (hU_ne (by omega)).trans ?_; first | assumption | exact hU_self _ _ _)))) (by exact le_b rfl) ?_
  refine qV_vret (pc := 5) dX1_forgets_5 rfl (le_b rfl) (le_b rfl) ?_
  have f2 : ∀ w : qE, Fr h (hU h y w) y (y + 1) := fun w => Fr.hU (by omega) (by omega)
  refine ⟨rfl, ⟨t, f, a1, hU_self _ _ _, (hU_ne (by omega)).trans a3, a4, fun i hi => ?_, fun i hi => by omega, by omega⟩, (f2 _).wide (by omega) (by omega), rfl⟩
  obtain ⟨P, e1⟩ := a5 i hi
  exact ⟨P, e1.fr (f2 _) (by omega)⟩
set_option maxRecDepth 100000 in
set_option maxHeartbeats 4000000 in
theorem c_latestPage {t : Nat} {f : Nat → Option Nat} {zz : Int} (a1 : t < 8) (a2 : h y = some (oB 1 [.ref (y + 1), vI t, vI zz])) (a3 : h (y + 1) = some (rA 2 8 f)) (a4 : f t = some (y + 2 + 7 * t)) : qRd l mX1_latestPage [.ref y] h sz (.ref (y + 2 + 7 * t)) := by
  refine qC.of 0 (by decide) (le_b rfl) ?_
  refine qV_aload_n (pc := 0) 0 dX1_latestPage_0 rfl rfl ?_
  refine qV_get (pc := 1) kX1 1 (le_b rfl) lk_X1_24 rfl dX1_latestPage_1 (by first | assumption | exact hU_self _ _ _ | (refine (hU_ne (by omega)).trans ?_; first | assumption | exact hU_self _ _ _ | (refine (hU_ne (by omega)).trans ?_; first | assumption | exact hU_self _ _ _ | (refine (hU_ne (by omega)).trans ?_; first | assumption | exact hU_self _ _ _)))) (by exact rfl) ?_
  refine qV_iflt (pc := 4) 31 dX1_latestPage_4 (by decide) ⟨by omega, by omega⟩ (fun c4 => ?_) (fun c4 => ?_)
  · exfalso; omega
  · refine qV_aload_n (pc := 7) 0 dX1_latestPage_7 rfl rfl ?_
    refine qV_get (pc := 8) kX1 1 (le_b rfl) lk_X1_24 rfl dX1_latestPage_8 (by first | assumption | exact hU_self _ _ _ | (refine (hU_ne (by omega)).trans ?_; first | assumption | exact hU_self _ _ _ | (refine (hU_ne (by omega)).trans ?_; first | assumption | exact hU_self _ _ _ | (refine (hU_ne (by omega)).trans ?_; first | assumption | exact hU_self _ _ _)))) (by exact rfl) ?_
    refine qV_aload_n (pc := 11) 0 dX1_latestPage_11 rfl rfl ?_
    refine qV_get (pc := 12) kX1 0 (le_b rfl) lk_X1_11 rfl dX1_latestPage_12 (by first | assumption | exact hU_self _ _ _ | (refine (hU_ne (by omega)).trans ?_; first | assumption | exact hU_self _ _ _ | (refine (hU_ne (by omega)).trans ?_; first | assumption | exact hU_self _ _ _ | (refine (hU_ne (by omega)).trans ?_; first | assumption | exact hU_self _ _ _)))) (by exact rfl) ?_
    refine qV_alenR (pc := 15) dX1_latestPage_15 (by first | assumption | exact hU_self _ _ _ | (refine (hU_ne (by omega)).trans ?_; first | assumption | exact hU_self _ _ _ | (refine (hU_ne (by omega)).trans ?_; first | assumption | exact hU_self _ _ _ | (refine (hU_ne (by omega)).trans ?_; first | assumption | exact hU_self _ _ _)))) ?_
    refine qV_icmp_ge (pc := 16) 31 dX1_latestPage_16 (by decide) ⟨by omega, by omega⟩ ⟨by omega, by omega⟩ (fun c16 => ?_) (fun c16 => ?_)
    · exfalso; omega
    · refine qV_aload_n (pc := 19) 0 dX1_latestPage_19 rfl rfl ?_
      refine qV_get (pc := 20) kX1 0 (le_b rfl) lk_X1_11 rfl dX1_latestPage_20 (by first | assumption | exact hU_self _ _ _ | (refine (hU_ne (by omega)).trans ?_; first | assumption | exact hU_self _ _ _ | (refine (hU_ne (by omega)).trans ?_; first | assumption | exact hU_self _ _ _ | (refine (hU_ne (by omega)).trans ?_; first | assumption | exact hU_self _ _ _)))) (by exact rfl) ?_
      refine qV_aload_n (pc := 23) 0 dX1_latestPage_23 rfl rfl ?_
      refine qV_get (pc := 24) kX1 1 (le_b rfl) lk_X1_24 rfl dX1_latestPage_24 (by first | assumption | exact hU_self _ _ _ | (refine (hU_ne (by omega)).trans ?_; first | assumption | exact hU_self _ _ _ | (refine (hU_ne (by omega)).trans ?_; first | assumption | exact hU_self _ _ _ | (refine (hU_ne (by omega)).trans ?_; first | assumption | exact hU_self _ _ _)))) (by exact rfl) ?_
      refine qV_aald (pc := 27) rfl dX1_latestPage_27 a3 (by omega) ?_
      rw [show f ((t : Int)).toNat = some (y + 2 + 7 * t) from a4]
      refine qV_goto (pc := 28) 32 dX1_latestPage_28 (by decide) ?_
      refine qV_aret (pc := 32) dX1_latestPage_32 rfl (Or.inl ⟨_, rfl⟩) (by first | exact Or.inl rfl | exact Or.inr ⟨_, rfl⟩) (le_b rfl) (le_b rfl) ?_
      exact ⟨rfl, rfl, rfl⟩
set_option maxRecDepth 100000 in
set_option maxHeartbeats 4000000 in
theorem rem_rest {p t t2 : Nat} {q zq : Int} {P : PG} {f : Nat → Option Nat} (a1 : t < 8) (ht : t2 = (t + 1) % 8) (hq : q = t2) (hzq : zq = ((min (z + 1) 8 : Nat) : Int)) (a2 : h y = some (oB 1 [.ref (y + 1), vI t, vI z])) (a3 : h (y + 1) = some (rA 2 8 f)) (a4 : ∀ i, i < 8 → f i = some (y + 2 + 7 * i)) (a5 : ∀ i, i < 8 → ∃ P, Page h (y + 2 + 7 * i) 120 P) (a6 : ∀ i, i < z → Page h (y + 2 + 7 * ((t + 8 - i) % 8)) 120 (Hs i)) (a7 : z ≤ 8) (hP : Page h p 216 P) (hn : P.1 ≤ 120) (hc : P.2.2.1 ≤ 120) (hd : p + 7 ≤ y ∨ y + 58 ≤ p) : qVM l mX1_remembers 0 0 h sz (fun v h' sz' => v = none ∧ Hst h' y (fun i => if i = 0 then P else Hs (i - 1)) (min (z + 1) 8) ∧ Fr h h' y (y + 58) ∧ sz' = sz) 0 0 (hU (hU h y (oB 1 [.ref (y + 1), vI q, vI z])) y (oB 1 [.ref (y + 1), vI q, vI zq])) sz 40 [some (.ref y), some (.ref p), none] [] := by
  subst hq
  have ht8 : t2 < 8 := by omega
  obtain ⟨P2, hP2⟩ := a5 t2 ht8
  generalize hh1 : hU (hU h y (oB 1 [.ref (y + 1), vI t2, vI z])) y (oB 1 [.ref (y + 1), vI t2, vI zq]) = h1
  have f1 : Fr h h1 y (y + 1) := by rw [← hh1]; exact (Fr.hU (by omega) (by omega)).trans (Fr.hU (by omega) (by omega))
  have b2 : h1 y = some (oB 1 [.ref (y + 1), vI t2, vI zq]) := by rw [← hh1]; exact hU_self _ _ _
  have b3 := (f1 (y + 1) (by omega)).trans a3
  have hQ := hP2.fr f1 (by omega)
  have hQ1 := hQ.1
  have hO := hP.fr f1 (by omega)
  refine qV_aload_n (pc := 40) 0 dX1_remembers_40 rfl rfl ?_
  refine qV_rdV (pc := 41) (c_latestPage ht8 b2 b3 (a4 t2 ht8)) nX1_latestPage kX1 lk_X1_33 dX1_remembers_41 (by first | assumption | exact hU_self _ _ _ | (refine (hU_ne (by omega)).trans ?_; first | assumption | exact hU_self _ _ _ | (refine (hU_ne (by omega)).trans ?_; first | assumption | exact hU_self _ _ _ | (refine (hU_ne (by omega)).trans ?_; first | assumption | exact hU_self _ _ _)))) ⟨le_b rfl, le_b rfl⟩ ⟨le_b rfl, le_b rfl⟩ rfl (le_b rfl) ?_
  refine qV_astore_n (pc := 44) 2 dX1_remembers_44 rfl (le_b rfl) (le_b rfl) rfl ?_
  refine qV_aload_n (pc := 45) 2 dX1_remembers_45 rfl rfl ?_
  refine qV_ifnull (pc := 46) dX1_remembers_46 ?_
  refine qV_aload_n (pc := 49) 2 dX1_remembers_49 rfl rfl ?_
  refine qV_aload_n (pc := 50) 1 dX1_remembers_50 rfl rfl ?_
  refine qV_voV (pc := 51) (c_becomes hQ hO hn hc (by omega)) nX2_becomes kX2 lk_X1_37 dX1_remembers_51 (by first | assumption | exact hU_self _ _ _ | (refine (hU_ne (by omega)).trans ?_; first | assumption | exact hU_self _ _ _ | (refine (hU_ne (by omega)).trans ?_; first | assumption | exact hU_self _ _ _ | (refine (hU_ne (by omega)).trans ?_; first | assumption | exact hU_self _ _ _)))) ⟨le_b rfl, le_b rfl⟩ ⟨le_b rfl, le_b rfl⟩ rfl (le_b rfl) ?_
  rintro h2 _ ⟨q2, f2, rfl⟩
  refine qV_vret (pc := 54) dX1_remembers_54 rfl (le_b rfl) (le_b rfl) ?_
  refine ⟨rfl, ⟨t2, f, ht8, ?_, (f2 (y + 1) (by omega)).trans b3, a4, fun i hi => ?_, fun i hi => ?_, by omega⟩, (f1.wide (by omega) (by omega)).trans (f2.wide (by omega) (by omega)), rfl⟩
  · rw [f2 y (by omega), b2, hzq]
  · by_cases e : i = t2
    · subst e; exact ⟨_, q2⟩
    · obtain ⟨P3, h3⟩ := a5 i hi
      exact ⟨P3, (h3.fr f1 (by omega)).fr f2 (by omega)⟩
  · by_cases e : i = 0
    · subst e
      show Page h2 (y + 2 + 7 * ((t2 + 8 - 0) % 8)) 120 P
      rw [show (t2 + 8 - 0) % 8 = t2 by omega]
      exact q2
    · show Page h2 (y + 2 + 7 * ((t2 + 8 - i) % 8)) 120 (if i = 0 then P else Hs (i - 1))
      rw [if_neg e]
      have h3 := a6 (i - 1) (by omega)
      rw [show (t + 8 - (i - 1)) % 8 = (t2 + 8 - i) % 8 by omega] at h3
      exact (h3.fr f1 (by omega)).fr f2 (by omega)
set_option maxRecDepth 100000 in
set_option maxHeartbeats 4000000 in
theorem c_remembers {p : Nat} {P : PG} (hH : Hst h y Hs z) (hP : Page h p 216 P) (hn : P.1 ≤ 120) (hc : P.2.2.1 ≤ 120) (hd : p + 7 ≤ y ∨ y + 58 ≤ p) : qVo l mX1_remembers 0 0 [.ref y, .ref p] h sz (fun h' sz' => Hst h' y (fun i => if i = 0 then P else Hs (i - 1)) (min (z + 1) 8) ∧ Fr h h' y (y + 58) ∧ sz' = sz) := by
  obtain ⟨t, f, a1, a2, a3, a4, a5, a6, a7⟩ := hH
  refine qC.of 1 (by decide) (le_b rfl) ?_
  refine qV_aload_n (pc := 0) 0 dX1_remembers_0 rfl rfl ?_
  refine qV_aload_n (pc := 1) 0 dX1_remembers_1 rfl rfl ?_
  refine qV_get (pc := 2) kX1 1 (le_b rfl) lk_X1_24 rfl dX1_remembers_2 (by first | assumption | exact hU_self _ _ _ | (refine (hU_ne (by omega)).trans ?_; first | assumption | exact hU_self _ _ _ | (refine (hU_ne (by omega)).trans ?_; first | assumption | exact hU_self _ _ _ | (refine (hU_ne (by omega)).trans ?_; first | assumption | exact hU_self _ _ _)))) (by exact rfl) ?_
  refine qV_iconst (pc := 5) dX1_remembers_5 ?_
  refine qV_iadd (pc := 6) dX1_remembers_6 ?_
  refine qV_bipush (pc := 7) dX1_remembers_7 rfl ?_
  refine qV_icmp_ge (pc := 9) 21 dX1_remembers_9 (by decide) ⟨by omega, by omega⟩ ⟨by omega, by omega⟩ (fun c9 => ?_) (fun c9 => ?_)
  · refine qV_iconst (pc := 21) dX1_remembers_21 ?_
    refine qV_put (pc := 22) kX1 1 (le_b rfl) lk_X1_24 rfl rfl rfl rfl dX1_remembers_22 (by first | assumption | exact hU_self _ _ _ | (refine (hU_ne (by omega)).trans ?_; first | assumption | exact hU_self _ _ _ | (refine (hU_ne (by omega)).trans ?_; first | assumption | exact hU_self _ _ _ | (refine (hU_ne (by omega)).trans ?_; first | assumption | exact hU_self _ _ _)))) (by exact le_b rfl) ?_
    refine qV_aload_n (pc := 25) 0 dX1_remembers_25 rfl rfl ?_
    refine qV_aload_n (pc := 26) 0 dX1_remembers_26 rfl rfl ?_
    refine qV_get (pc := 27) kX1 2 (le_b rfl) lk_X1_20 rfl dX1_remembers_27 (by first | assumption | exact hU_self _ _ _ | (refine (hU_ne (by omega)).trans ?_; first | assumption | exact hU_self _ _ _ | (refine (hU_ne (by omega)).trans ?_; first | assumption | exact hU_self _ _ _ | (refine (hU_ne (by omega)).trans ?_; first | assumption | exact hU_self _ _ _)))) (by exact rfl) ?_
    refine qV_iconst (pc := 30) dX1_remembers_30 ?_
    refine qV_iadd (pc := 31) dX1_remembers_31 ?_
    refine qV_bipush (pc := 32) dX1_remembers_32 rfl ?_
    refine qV_min (pc := 34) lk_X1_27 dX1_remembers_34 ⟨by omega, by omega⟩ ⟨by omega, by omega⟩ (le_b rfl) ⟨le_b rfl, le_b rfl⟩ (le_b rfl) ?_
    refine qV_put (pc := 37) kX1 2 (le_b rfl) lk_X1_20 rfl rfl rfl rfl dX1_remembers_37 (by first | assumption | exact hU_self _ _ _ | (refine (hU_ne (by omega)).trans ?_; first | assumption | exact hU_self _ _ _ | (refine (hU_ne (by omega)).trans ?_; first | assumption | exact hU_self _ _ _ | (refine (hU_ne (by omega)).trans ?_; first | assumption | exact hU_self _ _ _)))) (by exact le_b rfl) ?_
    exact rem_rest a1 (t2 := (t + 1) % 8) rfl (by omega) (by omega) a2 a3 a4 a5 a6 a7 hP hn hc hd
  · refine qV_aload_n (pc := 12) 0 dX1_remembers_12 rfl rfl ?_
    refine qV_get (pc := 13) kX1 1 (le_b rfl) lk_X1_24 rfl dX1_remembers_13 (by first | assumption | exact hU_self _ _ _ | (refine (hU_ne (by omega)).trans ?_; first | assumption | exact hU_self _ _ _ | (refine (hU_ne (by omega)).trans ?_; first | assumption | exact hU_self _ _ _ | (refine (hU_ne (by omega)).trans ?_; first | assumption | exact hU_self _ _ _)))) (by exact rfl) ?_
    refine qV_iconst (pc := 16) dX1_remembers_16 ?_
    refine qV_iadd (pc := 17) dX1_remembers_17 ?_
    refine qV_goto (pc := 18) 22 dX1_remembers_18 (by decide) ?_
    refine qV_put (pc := 22) kX1 1 (le_b rfl) lk_X1_24 rfl rfl rfl rfl dX1_remembers_22 (by first | assumption | exact hU_self _ _ _ | (refine (hU_ne (by omega)).trans ?_; first | assumption | exact hU_self _ _ _ | (refine (hU_ne (by omega)).trans ?_; first | assumption | exact hU_self _ _ _ | (refine (hU_ne (by omega)).trans ?_; first | assumption | exact hU_self _ _ _)))) (by exact le_b rfl) ?_
    refine qV_aload_n (pc := 25) 0 dX1_remembers_25 rfl rfl ?_
    refine qV_aload_n (pc := 26) 0 dX1_remembers_26 rfl rfl ?_
    refine qV_get (pc := 27) kX1 2 (le_b rfl) lk_X1_20 rfl dX1_remembers_27 (by first | assumption | exact hU_self _ _ _ | (refine (hU_ne (by omega)).trans ?_; first | assumption | exact hU_self _ _ _ | (refine (hU_ne (by omega)).trans ?_; first | assumption | exact hU_self _ _ _ | (refine (hU_ne (by omega)).trans ?_; first | assumption | exact hU_self _ _ _)))) (by exact rfl) ?_
    refine qV_iconst (pc := 30) dX1_remembers_30 ?_
    refine qV_iadd (pc := 31) dX1_remembers_31 ?_
    refine qV_bipush (pc := 32) dX1_remembers_32 rfl ?_
    refine qV_min (pc := 34) lk_X1_27 dX1_remembers_34 ⟨by omega, by omega⟩ ⟨by omega, by omega⟩ (le_b rfl) ⟨le_b rfl, le_b rfl⟩ (le_b rfl) ?_
    refine qV_put (pc := 37) kX1 2 (le_b rfl) lk_X1_20 rfl rfl rfl rfl dX1_remembers_37 (by first | assumption | exact hU_self _ _ _ | (refine (hU_ne (by omega)).trans ?_; first | assumption | exact hU_self _ _ _ | (refine (hU_ne (by omega)).trans ?_; first | assumption | exact hU_self _ _ _ | (refine (hU_ne (by omega)).trans ?_; first | assumption | exact hU_self _ _ _)))) (by exact le_b rfl) ?_
    exact rem_rest a1 (t2 := (t + 1) % 8) rfl (by omega) (by omega) a2 a3 a4 a5 a6 a7 hP hn hc hd
set_option maxRecDepth 100000 in
set_option maxHeartbeats 4000000 in
theorem c_restores {p : Nat} {P : PG} (hH : Hst h y Hs z) (hz : 0 < z) (hP : Page h p 216 P) (hn : (Hs 0).1 ≤ 120) (hc : (Hs 0).2.2.1 ≤ 120) (hd : p + 7 ≤ y ∨ y + 58 ≤ p) : qVo l mX1_restores 0 0 [.ref y, .ref p] h sz (fun h' sz' => (∃ hm : qH, Page hm p 216 (Hs 0) ∧ Fr h hm p (p + 7) ∧ Fr hm h' y (y + 58)) ∧ Page h' p 216 (Hs 0) ∧ Hst h' y (fun i => Hs (i + 1)) (z - 1) ∧ sz' = sz) := by
  obtain ⟨t, f, a1, a2, a3, a4, a5, a6, a7⟩ := hH
  have h0 := a6 0 hz
  rw [show (t + 8 - 0) % 8 = t by omega] at h0
  have hP1 := hP.1
  refine qC.of 1 (by decide) (le_b rfl) ?_
  refine qV_aload_n (pc := 0) 0 dX1_restores_0 rfl rfl ?_
  refine qV_rdV (pc := 1) (c_latestPage a1 a2 a3 (a4 t a1)) nX1_latestPage kX1 lk_X1_33 dX1_restores_1 (by first | assumption | exact hU_self _ _ _ | (refine (hU_ne (by omega)).trans ?_; first | assumption | exact hU_self _ _ _ | (refine (hU_ne (by omega)).trans ?_; first | assumption | exact hU_self _ _ _ | (refine (hU_ne (by omega)).trans ?_; first | assumption | exact hU_self _ _ _)))) ⟨le_b rfl, le_b rfl⟩ ⟨le_b rfl, le_b rfl⟩ rfl (le_b rfl) ?_
  refine qV_astore_n (pc := 4) 2 dX1_restores_4 rfl (le_b rfl) (le_b rfl) rfl ?_
  refine qV_aload_n (pc := 5) 0 dX1_restores_5 rfl rfl ?_
  refine qV_get (pc := 6) kX1 2 (le_b rfl) lk_X1_20 rfl dX1_restores_6 (by first | assumption | exact hU_self _ _ _ | (refine (hU_ne (by omega)).trans ?_; first | assumption | exact hU_self _ _ _ | (refine (hU_ne (by omega)).trans ?_; first | assumption | exact hU_self _ _ _ | (refine (hU_ne (by omega)).trans ?_; first | assumption | exact hU_self _ _ _)))) (by exact rfl) ?_
  refine qV_ifeq (pc := 9) 16 dX1_restores_9 (by decide) ⟨by omega, by omega⟩ (fun c9 => ?_) (fun c9 => ?_)
  · exfalso; omega
  · refine qV_aload_n (pc := 12) 2 dX1_restores_12 rfl rfl ?_
    refine qV_ifnonnull (pc := 13) 17 dX1_restores_13 (by decide) ?_
    refine qV_aload_n (pc := 17) 1 dX1_restores_17 rfl rfl ?_
    refine qV_aload_n (pc := 18) 2 dX1_restores_18 rfl rfl ?_
    refine qV_voV (pc := 19) (c_becomes hP h0 (by omega) (by omega) (by omega)) nX2_becomes kX2 lk_X1_37 dX1_restores_19 (by first | assumption | exact hU_self _ _ _ | (refine (hU_ne (by omega)).trans ?_; first | assumption | exact hU_self _ _ _ | (refine (hU_ne (by omega)).trans ?_; first | assumption | exact hU_self _ _ _ | (refine (hU_ne (by omega)).trans ?_; first | assumption | exact hU_self _ _ _)))) ⟨le_b rfl, le_b rfl⟩ ⟨le_b rfl, le_b rfl⟩ rfl (le_b rfl) ?_
    rintro h2 _ ⟨q2, f2, rfl⟩
    have b2 := (f2 y (by omega)).trans a2
    have b3 := (f2 (y + 1) (by omega)).trans a3
    refine qV_aload_n (pc := 22) 0 dX1_restores_22 rfl rfl ?_
    refine qV_aload_n (pc := 23) 0 dX1_restores_23 rfl rfl ?_
    refine qV_get (pc := 24) kX1 1 (le_b rfl) lk_X1_24 rfl dX1_restores_24 (by first | assumption | exact hU_self _ _ _ | (refine (hU_ne (by omega)).trans ?_; first | assumption | exact hU_self _ _ _ | (refine (hU_ne (by omega)).trans ?_; first | assumption | exact hU_self _ _ _ | (refine (hU_ne (by omega)).trans ?_; first | assumption | exact hU_self _ _ _)))) (by exact rfl) ?_
    refine qV_ifle (pc := 27) 39 dX1_restores_27 (by decide) ⟨by omega, by omega⟩ (fun c27 => ?_) (fun c27 => ?_)
    · refine qV_bipush (pc := 39) dX1_restores_39 rfl ?_
      refine qV_put (pc := 41) kX1 1 (le_b rfl) lk_X1_24 rfl rfl rfl rfl dX1_restores_41 (by first | assumption | exact hU_self _ _ _ | (refine (hU_ne (by omega)).trans ?_; first | assumption | exact hU_self _ _ _ | (refine (hU_ne (by omega)).trans ?_; first | assumption | exact hU_self _ _ _ | (refine (hU_ne (by omega)).trans ?_; first | assumption | exact hU_self _ _ _)))) (by exact le_b rfl) ?_
      refine qV_aload_n (pc := 44) 0 dX1_restores_44 rfl rfl ?_
      refine qV_dup (pc := 45) dX1_restores_45 rfl ?_
      refine qV_get (pc := 46) kX1 2 (le_b rfl) lk_X1_20 rfl dX1_restores_46 (by first | assumption | exact hU_self _ _ _ | (refine (hU_ne (by omega)).trans ?_; first | assumption | exact hU_self _ _ _ | (refine (hU_ne (by omega)).trans ?_; first | assumption | exact hU_self _ _ _ | (refine (hU_ne (by omega)).trans ?_; first | assumption | exact hU_self _ _ _)))) (by exact rfl) ?_
      refine qV_iconst (pc := 49) dX1_restores_49 ?_
      refine qV_isub (pc := 50) dX1_restores_50 ?_
      refine qV_put (pc := 51) kX1 2 (le_b rfl) lk_X1_20 rfl rfl rfl rfl dX1_restores_51 (by first | assumption | exact hU_self _ _ _ | (refine (hU_ne (by omega)).trans ?_; first | assumption | exact hU_self _ _ _ | (refine (hU_ne (by omega)).trans ?_; first | assumption | exact hU_self _ _ _ | (refine (hU_ne (by omega)).trans ?_; first | assumption | exact hU_self _ _ _)))) (by exact le_b rfl) ?_
      refine qV_vret (pc := 54) dX1_restores_54 rfl (le_b rfl) (le_b rfl) ?_
      generalize hh1 : hU _ y _ = h3
      have f3 : Fr h2 h3 y (y + 1) := by rw [← hh1]; exact (Fr.hU (by omega) (by omega)).trans (Fr.hU (by omega) (by omega))
      have c3 := (f3 (y + 1) (by omega)).trans b3
      refine ⟨rfl, ⟨h2, q2, f2, f3.wide (by omega) (by omega)⟩, q2.fr f3 (by omega), ⟨(t + 7) % 8, f, by omega, ?_, c3, a4, fun i hi => ?_, fun i hi => ?_, by omega⟩, rfl⟩
      · rw [← hh1, hU_self]
        show some (oB 1 [.ref (y + 1), vI _, vI ((z : Int) - 1)]) = _
        exact ob1_eq (by omega) (by omega)
      · obtain ⟨P3, h4⟩ := a5 i hi
        exact ⟨P3, (h4.fr f2 (by omega)).fr f3 (by omega)⟩
      · have h4 := a6 (i + 1) (by omega)
        rw [show (t + 8 - (i + 1)) % 8 = ((t + 7) % 8 + 8 - i) % 8 by omega] at h4
        exact (h4.fr f2 (by omega)).fr f3 (by omega)
    · refine qV_aload_n (pc := 30) 0 dX1_restores_30 rfl rfl ?_
      refine qV_get (pc := 31) kX1 1 (le_b rfl) lk_X1_24 rfl dX1_restores_31 (by first | assumption | exact hU_self _ _ _ | (refine (hU_ne (by omega)).trans ?_; first | assumption | exact hU_self _ _ _ | (refine (hU_ne (by omega)).trans ?_; first | assumption | exact hU_self _ _ _ | (refine (hU_ne (by omega)).trans ?_; first | assumption | exact hU_self _ _ _)))) (by exact rfl) ?_
      refine qV_iconst (pc := 34) dX1_restores_34 ?_
      refine qV_isub (pc := 35) dX1_restores_35 ?_
      refine qV_goto (pc := 36) 41 dX1_restores_36 (by decide) ?_
      refine qV_put (pc := 41) kX1 1 (le_b rfl) lk_X1_24 rfl rfl rfl rfl dX1_restores_41 (by first | assumption | exact hU_self _ _ _ | (refine (hU_ne (by omega)).trans ?_; first | assumption | exact hU_self _ _ _ | (refine (hU_ne (by omega)).trans ?_; first | assumption | exact hU_self _ _ _ | (refine (hU_ne (by omega)).trans ?_; first | assumption | exact hU_self _ _ _)))) (by exact le_b rfl) ?_
      refine qV_aload_n (pc := 44) 0 dX1_restores_44 rfl rfl ?_
      refine qV_dup (pc := 45) dX1_restores_45 rfl ?_
      refine qV_get (pc := 46) kX1 2 (le_b rfl) lk_X1_20 rfl dX1_restores_46 (by first | assumption | exact hU_self _ _ _ | (refine (hU_ne (by omega)).trans ?_; first | assumption | exact hU_self _ _ _ | (refine (hU_ne (by omega)).trans ?_; first | assumption | exact hU_self _ _ _ | (refine (hU_ne (by omega)).trans ?_; first | assumption | exact hU_self _ _ _)))) (by exact rfl) ?_
      refine qV_iconst (pc := 49) dX1_restores_49 ?_
      refine qV_isub (pc := 50) dX1_restores_50 ?_
      refine qV_put (pc := 51) kX1 2 (le_b rfl) lk_X1_20 rfl rfl rfl rfl dX1_restores_51 (by first | assumption | exact hU_self _ _ _ | (refine (hU_ne (by omega)).trans ?_; first | assumption | exact hU_self _ _ _ | (refine (hU_ne (by omega)).trans ?_; first | assumption | exact hU_self _ _ _ | (refine (hU_ne (by omega)).trans ?_; first | assumption | exact hU_self _ _ _)))) (by exact le_b rfl) ?_
      refine qV_vret (pc := 54) dX1_restores_54 rfl (le_b rfl) (le_b rfl) ?_
      generalize hh1 : hU _ y _ = h3
      have f3 : Fr h2 h3 y (y + 1) := by rw [← hh1]; exact (Fr.hU (by omega) (by omega)).trans (Fr.hU (by omega) (by omega))
      have c3 := (f3 (y + 1) (by omega)).trans b3
      refine ⟨rfl, ⟨h2, q2, f2, f3.wide (by omega) (by omega)⟩, q2.fr f3 (by omega), ⟨(t + 7) % 8, f, by omega, ?_, c3, a4, fun i hi => ?_, fun i hi => ?_, by omega⟩, rfl⟩
      · rw [← hh1, hU_self]
        show some (oB 1 [.ref (y + 1), vI _, vI ((z : Int) - 1)]) = _
        exact ob1_eq (by omega) (by omega)
      · obtain ⟨P3, h4⟩ := a5 i hi
        exact ⟨P3, (h4.fr f2 (by omega)).fr f3 (by omega)⟩
      · have h4 := a6 (i + 1) (by omega)
        rw [show (t + 8 - (i + 1)) % 8 = ((t + 7) % 8 + 8 - i) % 8 by omega] at h4
        exact (h4.fr f2 (by omega)).fr f3 (by omega)
set_option maxRecDepth 100000 in
set_option maxHeartbeats 4000000 in
theorem hst_init_loop : ∀ (m i : Nat) (q : Int) (h1 : qH) (s1 k1 n1 : Nat) (f : Nat → Option Nat), 8 - i = m → i ≤ 8 → q = i → s1 = y + 2 + 7 * i → k1 = 1 + 7 * i → n1 = 8 + 276 * i → h1 y = some (oB 1 [.ref (y + 1), vI 0, vI 0]) → h1 (y + 1) = some (rA 2 8 f) → (∀ j, j < i → f j = some (y + 2 + 7 * j)) → (∀ j, j < i → Page h1 (y + 2 + 7 * j) 120 (0, (fun _ => 0), 0, (fun _ => 0), (fun _ => -9), 0)) → Fr h h1 y (y + 58) → qVM l mX1_init 57 2216 h sz (fun v h' sz' => v = none ∧ Hst h' y Hs 0 ∧ Fr h h' y (y + 58) ∧ sz' = y + 58) k1 n1 h1 s1 15 [some (.ref y), some (vI q)] [] := by
  intro m
  induction m with
  | zero =>
    intro i q h1 s1 k1 n1 f hm hi hq hs hk hn ho ha f1 f2 hf
    obtain rfl : i = 8 := by omega
    refine qV_iload_n (pc := 15) 1 dX1_init_15 rfl rfl ?_
    refine qV_aload_n (pc := 16) 0 dX1_init_16 rfl rfl ?_
    refine qV_get (pc := 17) kX1 0 (le_b rfl) lk_X1_11 rfl dX1_init_17 (by first | assumption | exact hU_self _ _ _ | (refine (hU_ne (by omega)).trans ?_; first | assumption | exact hU_self _ _ _ | (refine (hU_ne (by omega)).trans ?_; first | assumption | exact hU_self _ _ _ | (refine (hU_ne (by omega)).trans ?_; first | assumption | exact hU_self _ _ _)))) (by exact rfl) ?_
    refine qV_alenR (pc := 20) dX1_init_20 (by first | assumption | exact hU_self _ _ _ | (refine (hU_ne (by omega)).trans ?_; first | assumption | exact hU_self _ _ _ | (refine (hU_ne (by omega)).trans ?_; first | assumption | exact hU_self _ _ _ | (refine (hU_ne (by omega)).trans ?_; first | assumption | exact hU_self _ _ _)))) ?_
    refine qV_icmp_ge (pc := 21) 45 dX1_init_21 (by decide) ⟨by omega, by omega⟩ ⟨by omega, by omega⟩ (fun c21 => ?_) (fun c21 => ?_)
    · refine qV_vret (pc := 45) dX1_init_45 rfl (by omega) (by omega) ?_
      exact ⟨rfl, ⟨0, f, by omega, ho, ha, f1, fun j hj => ⟨_, f2 j hj⟩, fun j hj => by omega, by omega⟩, hf, by omega⟩
    · exfalso; omega
  | succ m ih =>
    intro i q h1 s1 k1 n1 f hm hi hq hs hk hn ho ha f1 f2 hf
    subst hs
    have hi3 : i < 8 := by omega
    refine qV_iload_n (pc := 15) 1 dX1_init_15 rfl rfl ?_
    refine qV_aload_n (pc := 16) 0 dX1_init_16 rfl rfl ?_
    refine qV_get (pc := 17) kX1 0 (le_b rfl) lk_X1_11 rfl dX1_init_17 (by first | assumption | exact hU_self _ _ _ | (refine (hU_ne (by omega)).trans ?_; first | assumption | exact hU_self _ _ _ | (refine (hU_ne (by omega)).trans ?_; first | assumption | exact hU_self _ _ _ | (refine (hU_ne (by omega)).trans ?_; first | assumption | exact hU_self _ _ _)))) (by exact rfl) ?_
    refine qV_alenR (pc := 20) dX1_init_20 (by first | assumption | exact hU_self _ _ _ | (refine (hU_ne (by omega)).trans ?_; first | assumption | exact hU_self _ _ _ | (refine (hU_ne (by omega)).trans ?_; first | assumption | exact hU_self _ _ _ | (refine (hU_ne (by omega)).trans ?_; first | assumption | exact hU_self _ _ _)))) ?_
    refine qV_icmp_ge (pc := 21) 45 dX1_init_21 (by decide) ⟨by omega, by omega⟩ ⟨by omega, by omega⟩ (fun c21 => ?_) (fun c21 => ?_)
    · exfalso; omega
    · refine qV_aload_n (pc := 24) 0 dX1_init_24 rfl rfl ?_
      refine qV_get (pc := 25) kX1 0 (le_b rfl) lk_X1_11 rfl dX1_init_25 (by first | assumption | exact hU_self _ _ _ | (refine (hU_ne (by omega)).trans ?_; first | assumption | exact hU_self _ _ _ | (refine (hU_ne (by omega)).trans ?_; first | assumption | exact hU_self _ _ _ | (refine (hU_ne (by omega)).trans ?_; first | assumption | exact hU_self _ _ _)))) (by exact rfl) ?_
      refine qV_iload_n (pc := 28) 1 dX1_init_28 rfl rfl ?_
      refine qV_new (pc := 29) [.null, .null, .null, vI 0] kX2 lk_X1_9 wb_X2 wn_X2 (by intro j hj; rcases (show j = 0 ∨ j = 1 ∨ j = 2 ∨ j = 3 by omega) with rfl | rfl | rfl | rfl <;> rfl) dX1_init_29 (by show k1 + 1 ≤ 57; omega) (by show n1 + 4 ≤ 2216; omega) ?_
      refine qV_dup (pc := 32) dX1_init_32 rfl ?_
      refine qV_bipush (pc := 33) dX1_init_33 rfl ?_
      refine qV_voI (pc := 35) (c_Page_init (B := 120) rfl (by omega) (hU_self _ _ _) rfl) nX2_init lk_X1_17 dX1_init_35 ⟨le_b rfl, le_b rfl⟩ ⟨by show _ ≤ 57; omega, by show _ ≤ 2216; omega⟩ rfl (le_b rfl) ?_
      rintro h2 _ ⟨e2, f3, rfl⟩
      have b4 : h2 (y + 1) = some (rA 2 8 f) := (f3 (y + 1) (by omega)).trans ((hU_ne (by omega)).trans ha)
      have b3 : h2 y = some (oB 1 [.ref (y + 1), vI 0, vI 0]) := (f3 y (by omega)).trans ((hU_ne (by omega)).trans ho)
      refine qV_aast (pc := 38) kX2 rfl dX1_init_38 b4 (e2.1) (by omega) ?_
      rw [show q.toNat = i by omega]
      refine qV_iinc (pc := 39) 1 dX1_init_39 rfl (le_b rfl) (le_b rfl) rfl ?_
      refine qV_goto (pc := 42) 15 dX1_init_42 (by decide) ?_
      have fa : ∀ w : qE, Fr h2 (hU h2 (y + 1) w) (y + 1) (y + 2) := fun w => Fr.hU (by omega) (by omega)
      refine ih (i + 1) _ _ _ _ _ _ (by omega) (by omega) (by omega) (by omega) (by omega) (by omega) ((hU_ne (by omega)).trans b3) (hU_self _ _ _) (fun j hj => ?_) (fun j hj => ?_) (((hf.trans (Fr.hU (by omega) (by omega))).trans (f3.wide (by omega) (by omega))).trans ((fa _).wide (by omega) (by omega)))
      · by_cases e : j = i
        · subst e; rw [va_up_self]
        · rw [va_up_ne _ _ e]; exact f1 j (by omega)
      · by_cases e : j = i
        · subst e; exact e2.fr (fa _) (by omega)
        · exact (((f2 j (by omega)).fr (Fr.hU (lo := y + 2 + 7 * i) (hi := y + 3 + 7 * i) (by omega) (by omega)) (by omega)).fr f3 (by omega)).fr (fa _) (by omega)
set_option maxRecDepth 100000 in
set_option maxHeartbeats 4000000 in
theorem c_Hst_init (h1 : h y = some (oB 1 [.null, vI 0, vI 0])) (hs : sz = y + 1) : qVo l mX1_init 57 2216 [.ref y] h sz (fun h' sz' => Hst h' y Hs 0 ∧ Fr h h' y (y + 58) ∧ sz' = y + 58) := by
  subst hs
  refine qC.of 1 (by decide) (le_b rfl) ?_
  refine qV_aload_n (pc := 0) 0 dX1_init_0 rfl rfl ?_
  refine qV_objinit (pc := 1) lk_X1_3 dX1_init_1 (le_b rfl) (le_b rfl) ?_
  refine qV_aload_n (pc := 4) 0 dX1_init_4 rfl rfl ?_
  refine qV_bipush (pc := 5) dX1_init_5 rfl ?_
  refine qV_newr (pc := 7) (kd := 2) rfl lk_X1_9 (fun D s hK => hK.2.2.2) dX1_init_7 (by omega) (le_b rfl) (le_b rfl) ?_
  refine qV_putF (pc := 10) kX1 0 (le_b rfl) lk_X1_11 rfl rfl rfl rfl rfl rfl dX1_init_10 (by first | assumption | exact hU_self _ _ _ | (refine (hU_ne (by omega)).trans ?_; first | assumption | exact hU_self _ _ _ | (refine (hU_ne (by omega)).trans ?_; first | assumption | exact hU_self _ _ _ | (refine (hU_ne (by omega)).trans ?_; first | assumption | exact hU_self _ _ _)))) (by exact le_b rfl) ?_
  refine qV_iconst (pc := 13) dX1_init_13 ?_
  refine qV_istore_n (pc := 14) 1 dX1_init_14 rfl (le_b rfl) (le_b rfl) rfl ?_
  exact hst_init_loop 8 0 _ _ _ _ _ _ (by omega) (by omega) rfl rfl rfl rfl (hU_self _ _ _) ((hU_ne (by omega)).trans (hU_self _ _ _)) (fun j hj => by omega) (fun j hj => by omega) ((Fr.hU (lo := y) (hi := y + 58) (by omega) (by omega)).trans (Fr.hU (by omega) (by omega)))
end HISTORY
