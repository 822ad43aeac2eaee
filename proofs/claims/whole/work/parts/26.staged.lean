/-! ===== Edit, Staged ===== -/
abbrev eob (e : Nat) (E : ED) : qE := oB 0 [.ref (e + 1), vI E.1, vI E.2.1]
def Edit (h : qH) (e : Nat) (E : ED) : Prop := h e = some (eob e E) ∧ Row h (e + 1) 24 E.2.2.1 E.2.2.2
theorem Edit.fr {h h' : qH} {e lo hi : Nat} {E : ED} (a : Edit h e E) (b : Fr h h' lo hi) (d : e + 3 ≤ lo ∨ hi ≤ e) : Edit h' e E := ⟨(b e (by omega)).trans a.1, a.2.fr b (by omega)⟩
section EDIT
variable {l : Launch} {h : qH} {sz e : Nat} {E : ED}
set_option maxRecDepth 100000 in
set_option maxHeartbeats 4000000 in
theorem c_Edit_init (h1 : h e = some (oB 0 [.null, vI 0, vI 0])) (hs : sz = e + 1) : qVo l mX0_init 2 26 [.ref e] h sz (fun h' sz' => Edit h' e (0, 0, 0, fun _ => 0) ∧ Fr h h' e (e + 3) ∧ sz' = e + 3) := by
  subst hs
  refine qC.of 0 (by decide) (le_b rfl) ?_
  refine qV_aload_n (pc := 0) 0 dX0_init_0 rfl rfl ?_
  refine qV_objinit (pc := 1) lk_X0_3 dX0_init_1 (le_b rfl) (le_b rfl) ?_
  refine qV_aload_n (pc := 4) 0 dX0_init_4 rfl rfl ?_
  refine qV_new (pc := 5) [.null, vI 0] kX3 lk_X0_9 wb_X3 wn_X3 fs2 dX0_init_5 (le_b rfl) (le_b rfl) ?_
  refine qV_dup (pc := 8) dX0_init_8 rfl ?_
  refine qV_bipush (pc := 9) dX0_init_9 rfl ?_
  refine qV_voI (pc := 11) (c_Row_init (r := e + 1) (N := 24) (fun _ => 0) rfl (by omega) (hU_self _ _ _) rfl) nX3_init lk_X0_11 dX0_init_11 ⟨le_b rfl, le_b rfl⟩ ⟨le_b rfl, le_b rfl⟩ rfl (le_b rfl) ?_
  rintro g1 _ ⟨r1, f1, rfl⟩
  have o1 : g1 e = some (oB 0 [.null, vI 0, vI 0]) := (f1 e (by omega)).trans ((hU_ne (by omega)).trans h1)
  refine qV_putF (pc := 14) kX0 0 (le_b rfl) lk_X0_14 rfl rfl rfl rfl rfl rfl dX0_init_14 (by first | assumption | exact hU_self _ _ _ | (refine (hU_ne (by omega)).trans ?_; first | assumption | exact hU_self _ _ _ | (refine (hU_ne (by omega)).trans ?_; first | assumption | exact hU_self _ _ _ | (refine (hU_ne (by omega)).trans ?_; first | assumption | exact hU_self _ _ _)))) (by exact le_b rfl) ?_
  refine qV_vret (pc := 17) dX0_init_17 rfl (le_b rfl) (le_b rfl) ?_
  have f2 : ∀ x : qE, Fr g1 (hU g1 e x) e (e + 1) := fun x => Fr.hU (by omega) (by omega)
  exact ⟨rfl, ⟨hU_self _ _ _, r1.fr (f2 _) (by omega)⟩, ((Fr.hU (lo := e) (hi := e + 3) (by omega) (by omega)).trans (f1.wide (by omega) (by omega))).trans ((f2 _).wide (by omega) (by omega)), rfl⟩
set_option maxRecDepth 100000 in
set_option maxHeartbeats 4000000 in
theorem c_takesOver {x q : Int} {i k o No m : Nat} {W : Nat → Int} (hE : Edit h e E) (hx : x = i) (hq : q = k) (hW : Row h o No m W) (hm : m ≤ 24) (hd : e + 3 ≤ o ∨ o + 2 ≤ e) : qVo l mX0_takesOver 0 0 [.ref e, vI x, vI q, .ref o] h sz (fun h' sz' => Edit h' e (i, k, m, W) ∧ Fr h h' e (e + 3) ∧ sz' = sz) := by
  subst hx; subst hq
  obtain ⟨e1, e2⟩ := hE
  have f1 : ∀ (g : qH) (y : qE), Fr g (hU g e y) e (e + 1) := fun g y => Fr.hU (by omega) (by omega)
  refine qC.of 0 (by decide) (le_b rfl) ?_
  refine qV_aload_n (pc := 0) 0 dX0_takesOver_0 rfl rfl ?_
  refine qV_iload_n (pc := 1) 1 dX0_takesOver_1 rfl rfl ?_
  refine qV_put (pc := 2) kX0 1 (le_b rfl) lk_X0_20 rfl rfl rfl rfl dX0_takesOver_2 (by first | assumption | exact hU_self _ _ _ | (refine (hU_ne (by omega)).trans ?_; first | assumption | exact hU_self _ _ _ | (refine (hU_ne (by omega)).trans ?_; first | assumption | exact hU_self _ _ _ | (refine (hU_ne (by omega)).trans ?_; first | assumption | exact hU_self _ _ _)))) (by exact le_b rfl) ?_
  refine qV_aload_n (pc := 5) 0 dX0_takesOver_5 rfl rfl ?_
  refine qV_iload_n (pc := 6) 2 dX0_takesOver_6 rfl rfl ?_
  refine qV_put (pc := 7) kX0 2 (le_b rfl) lk_X0_24 rfl rfl rfl rfl dX0_takesOver_7 (by first | assumption | exact hU_self _ _ _ | (refine (hU_ne (by omega)).trans ?_; first | assumption | exact hU_self _ _ _ | (refine (hU_ne (by omega)).trans ?_; first | assumption | exact hU_self _ _ _ | (refine (hU_ne (by omega)).trans ?_; first | assumption | exact hU_self _ _ _)))) (by exact le_b rfl) ?_
  refine qV_aload_n (pc := 10) 0 dX0_takesOver_10 rfl rfl ?_
  refine qV_get (pc := 11) kX0 0 (le_b rfl) lk_X0_14 rfl dX0_takesOver_11 (by first | assumption | exact hU_self _ _ _ | (refine (hU_ne (by omega)).trans ?_; first | assumption | exact hU_self _ _ _ | (refine (hU_ne (by omega)).trans ?_; first | assumption | exact hU_self _ _ _ | (refine (hU_ne (by omega)).trans ?_; first | assumption | exact hU_self _ _ _)))) (by exact rfl) ?_
  refine qV_aload_n (pc := 14) 3 dX0_takesOver_14 rfl rfl ?_
  refine qV_voV (pc := 15) (c_copies ((e2.fr (f1 _ _) (by omega)).fr (f1 _ _) (by omega)) ((hW.fr (f1 _ _) (by omega)).fr (f1 _ _) (by omega)) (by omega) hm) nX3_copies kX3 lk_X0_27 dX0_takesOver_15 ((e2.fr (f1 _ _) (by omega)).fr (f1 _ _) (by omega)).obj ⟨le_b rfl, le_b rfl⟩ ⟨le_b rfl, le_b rfl⟩ rfl (le_b rfl) ?_
  rintro g1 _ ⟨r1, f3, rfl⟩
  refine qV_vret (pc := 18) dX0_takesOver_18 rfl (le_b rfl) (le_b rfl) ?_
  exact ⟨rfl, ⟨(f3 e (by omega)).trans (hU_self _ _ _), r1⟩, (((f1 h _).wide (by omega) (by omega)).trans ((f1 _ _).wide (by omega) (by omega))).trans (f3.wide (by omega) (by omega)), rfl⟩
set_option maxRecDepth 100000 in
set_option maxHeartbeats 4000000 in
theorem c_beginsBehind {x : Int} (hE : Edit h e E) (hx : iR x) (hb : E.1 ≤ 5000) : qRd l mX0_beginsBehind [.ref e, vI x] h sz (vB (x < (E.1 : Int))) := by
  obtain ⟨e1, e2⟩ := hE
  obtain ⟨x1, x2⟩ := hx
  refine qC.of 0 (by decide) (le_b rfl) ?_
  refine qV_aload_n (pc := 0) 0 dX0_beginsBehind_0 rfl rfl ?_
  refine qV_get (pc := 1) kX0 1 (le_b rfl) lk_X0_20 rfl dX0_beginsBehind_1 (by first | assumption | exact hU_self _ _ _ | (refine (hU_ne (by omega)).trans ?_; first | assumption | exact hU_self _ _ _ | (refine (hU_ne (by omega)).trans ?_; first | assumption | exact hU_self _ _ _ | (refine (hU_ne (by omega)).trans ?_; first | assumption | exact hU_self _ _ _)))) (by exact rfl) ?_
  refine qV_iload_n (pc := 4) 1 dX0_beginsBehind_4 rfl rfl ?_
  refine qV_icmp_le (pc := 5) 12 dX0_beginsBehind_5 (by decide) ⟨by omega, by omega⟩ ⟨by omega, by omega⟩ (fun c5 => ?_) (fun c5 => ?_)
  · refine qV_iconst (pc := 12) dX0_beginsBehind_12 ?_
    refine qV_zret (pc := 13) dX0_beginsBehind_13 rfl (by first | exact Or.inl rfl | exact Or.inr rfl) (le_b rfl) (le_b rfl) ?_
    first | exact ⟨by rw [vB, if_pos (by omega)], rfl, rfl⟩ | exact ⟨by rw [vB, if_neg (by omega)], rfl, rfl⟩
  · refine qV_iconst (pc := 8) dX0_beginsBehind_8 ?_
    refine qV_goto (pc := 9) 13 dX0_beginsBehind_9 (by decide) ?_
    refine qV_zret (pc := 13) dX0_beginsBehind_13 rfl (by first | exact Or.inl rfl | exact Or.inr rfl) (le_b rfl) (le_b rfl) ?_
    first | exact ⟨by rw [vB, if_pos (by omega)], rfl, rfl⟩ | exact ⟨by rw [vB, if_neg (by omega)], rfl, rfl⟩
set_option maxRecDepth 100000 in
set_option maxHeartbeats 4000000 in
theorem c_meets {x k : Int} (hE : Edit h e E) (hx : 0 ≤ x ∧ x ≤ 5000) (hk : 0 ≤ k ∧ k ≤ 5000) (hb : E.1 ≤ 5000 ∧ E.2.1 ≤ 5000) : qRd l mX0_meets [.ref e, vI x, vI k] h sz (vB (mts E x k)) := by
  obtain ⟨e1, e2⟩ := hE
  refine qC.of 0 (by decide) (le_b rfl) ?_
  refine qV_aload_n (pc := 0) 0 dX0_meets_0 rfl rfl ?_
  refine qV_get (pc := 1) kX0 1 (le_b rfl) lk_X0_20 rfl dX0_meets_1 (by first | assumption | exact hU_self _ _ _ | (refine (hU_ne (by omega)).trans ?_; first | assumption | exact hU_self _ _ _ | (refine (hU_ne (by omega)).trans ?_; first | assumption | exact hU_self _ _ _ | (refine (hU_ne (by omega)).trans ?_; first | assumption | exact hU_self _ _ _)))) (by exact rfl) ?_
  refine qV_iload_n (pc := 4) 1 dX0_meets_4 rfl rfl ?_
  refine qV_iload_n (pc := 5) 2 dX0_meets_5 rfl rfl ?_
  refine qV_iadd (pc := 6) dX0_meets_6 ?_
  refine qV_icmp_gt (pc := 7) 27 dX0_meets_7 (by decide) ⟨by omega, by omega⟩ ⟨by omega, by omega⟩ (fun c7 => ?_) (fun c7 => ?_)
  · refine qV_iconst (pc := 27) dX0_meets_27 ?_
    refine qV_zret (pc := 28) dX0_meets_28 rfl (by first | exact Or.inl rfl | exact Or.inr rfl) (le_b rfl) (le_b rfl) ?_
    first | exact ⟨by rw [vB, if_pos (by simp only [mts]; omega)], rfl, rfl⟩ | exact ⟨by rw [vB, if_neg (by simp only [mts]; omega)], rfl, rfl⟩
  · refine qV_iload_n (pc := 10) 1 dX0_meets_10 rfl rfl ?_
    refine qV_aload_n (pc := 11) 0 dX0_meets_11 rfl rfl ?_
    refine qV_get (pc := 12) kX0 1 (le_b rfl) lk_X0_20 rfl dX0_meets_12 (by first | assumption | exact hU_self _ _ _ | (refine (hU_ne (by omega)).trans ?_; first | assumption | exact hU_self _ _ _ | (refine (hU_ne (by omega)).trans ?_; first | assumption | exact hU_self _ _ _ | (refine (hU_ne (by omega)).trans ?_; first | assumption | exact hU_self _ _ _)))) (by exact rfl) ?_
    refine qV_aload_n (pc := 15) 0 dX0_meets_15 rfl rfl ?_
    refine qV_get (pc := 16) kX0 2 (le_b rfl) lk_X0_24 rfl dX0_meets_16 (by first | assumption | exact hU_self _ _ _ | (refine (hU_ne (by omega)).trans ?_; first | assumption | exact hU_self _ _ _ | (refine (hU_ne (by omega)).trans ?_; first | assumption | exact hU_self _ _ _ | (refine (hU_ne (by omega)).trans ?_; first | assumption | exact hU_self _ _ _)))) (by exact rfl) ?_
    refine qV_iadd (pc := 19) dX0_meets_19 ?_
    refine qV_icmp_gt (pc := 20) 27 dX0_meets_20 (by decide) ⟨by omega, by omega⟩ ⟨by omega, by omega⟩ (fun c20 => ?_) (fun c20 => ?_)
    · refine qV_iconst (pc := 27) dX0_meets_27 ?_
      refine qV_zret (pc := 28) dX0_meets_28 rfl (by first | exact Or.inl rfl | exact Or.inr rfl) (le_b rfl) (le_b rfl) ?_
      first | exact ⟨by rw [vB, if_pos (by simp only [mts]; omega)], rfl, rfl⟩ | exact ⟨by rw [vB, if_neg (by simp only [mts]; omega)], rfl, rfl⟩
    · refine qV_iconst (pc := 23) dX0_meets_23 ?_
      refine qV_goto (pc := 24) 28 dX0_meets_24 (by decide) ?_
      refine qV_zret (pc := 28) dX0_meets_28 rfl (by first | exact Or.inl rfl | exact Or.inr rfl) (le_b rfl) (le_b rfl) ?_
      first | exact ⟨by rw [vB, if_pos (by simp only [mts]; omega)], rfl, rfl⟩ | exact ⟨by rw [vB, if_neg (by simp only [mts]; omega)], rfl, rfl⟩
set_option maxRecDepth 100000 in
set_option maxHeartbeats 4000000 in
theorem c_bytesMore (hE : Edit h e E) : qRd l mX0_bytesMore [.ref e] h sz (vI ((E.2.2.1 : Int) - (E.2.1 : Int))) := by
  obtain ⟨e1, e2⟩ := hE
  refine qC.of 0 (by decide) (le_b rfl) ?_
  refine qV_aload_n (pc := 0) 0 dX0_bytesMore_0 rfl rfl ?_
  refine qV_get (pc := 1) kX0 0 (le_b rfl) lk_X0_14 rfl dX0_bytesMore_1 (by first | assumption | exact hU_self _ _ _ | (refine (hU_ne (by omega)).trans ?_; first | assumption | exact hU_self _ _ _ | (refine (hU_ne (by omega)).trans ?_; first | assumption | exact hU_self _ _ _ | (refine (hU_ne (by omega)).trans ?_; first | assumption | exact hU_self _ _ _)))) (by exact rfl) ?_
  refine qV_rdV (pc := 4) (c_size e2) nX3_size kX3 lk_X0_31 dX0_bytesMore_4 e2.obj ⟨le_b rfl, le_b rfl⟩ ⟨le_b rfl, le_b rfl⟩ rfl (le_b rfl) ?_
  refine qV_aload_n (pc := 7) 0 dX0_bytesMore_7 rfl rfl ?_
  refine qV_get (pc := 8) kX0 2 (le_b rfl) lk_X0_24 rfl dX0_bytesMore_8 (by first | assumption | exact hU_self _ _ _ | (refine (hU_ne (by omega)).trans ?_; first | assumption | exact hU_self _ _ _ | (refine (hU_ne (by omega)).trans ?_; first | assumption | exact hU_self _ _ _ | (refine (hU_ne (by omega)).trans ?_; first | assumption | exact hU_self _ _ _)))) (by exact rfl) ?_
  refine qV_isub (pc := 11) dX0_bytesMore_11 ?_
  refine qV_iret (pc := 12) dX0_bytesMore_12 rfl (le_b rfl) (le_b rfl) ?_
  exact ⟨rfl, rfl, rfl⟩
end EDIT
def Stg (h : qH) (g : Nat) (S : Nat → ED) (z : Nat) : Prop := ∃ (f : Nat → Option Nat) (σ : Nat → Nat), (∀ i, i < 4 → σ i < 4) ∧ (∀ i j, i < 4 → j < 4 → σ i = σ j → i = j) ∧ h g = some (oB 4 [.ref (g + 1), vI z]) ∧ h (g + 1) = some (rA 3 4 f) ∧ (∀ i, i < 4 → f i = some (g + 2 + 3 * σ i)) ∧ (∀ i, i < 4 → ∃ E, Edit h (g + 2 + 3 * σ i) E ∧ (i < z → E = S i)) ∧ z ≤ 4
theorem Stg.fr {h h' : qH} {g lo hi z : Nat} {S : Nat → ED} (a : Stg h g S z) (b : Fr h h' lo hi) (d : g + 14 ≤ lo ∨ hi ≤ g) : Stg h' g S z := by
  obtain ⟨f, σ, a1, a2, a3, a4, a5, a6, a7⟩ := a
  refine ⟨f, σ, a1, a2, (b g (by omega)).trans a3, (b (g + 1) (by omega)).trans a4, a5, fun i hi => ?_, a7⟩
  obtain ⟨E, e1, e2⟩ := a6 i hi
  have := a1 i hi
  exact ⟨E, e1.fr b (by omega), e2⟩
section STAGED
variable {l : Launch} {h : qH} {sz g z : Nat} {S : Nat → ED}
set_option maxRecDepth 100000 in
set_option maxHeartbeats 4000000 in
theorem c_Stg_size (hS : Stg h g S z) : qRd l mX4_size [.ref g] h sz (vI z) := by
  obtain ⟨f, σ, a1, a2, a3, a4, a5, a6, a7⟩ := hS
  refine qC.of 0 (by decide) (le_b rfl) ?_
  refine qV_aload_n (pc := 0) 0 dX4_size_0 rfl rfl ?_
  refine qV_get (pc := 1) kX4 1 (le_b rfl) lk_X4_18 rfl dX4_size_1 (by first | assumption | exact hU_self _ _ _ | (refine (hU_ne (by omega)).trans ?_; first | assumption | exact hU_self _ _ _ | (refine (hU_ne (by omega)).trans ?_; first | assumption | exact hU_self _ _ _ | (refine (hU_ne (by omega)).trans ?_; first | assumption | exact hU_self _ _ _)))) (by exact rfl) ?_
  refine qV_iret (pc := 4) dX4_size_4 rfl (le_b rfl) (le_b rfl) ?_
  exact ⟨rfl, rfl, rfl⟩
set_option maxRecDepth 100000 in
set_option maxHeartbeats 4000000 in
theorem c_Stg_empties (S2 : Nat → ED) (hS : Stg h g S z) : qVo l mX4_empties 0 0 [.ref g] h sz (fun h' sz' => Stg h' g S2 0 ∧ Fr h h' g (g + 14) ∧ sz' = sz) := by
  obtain ⟨f, σ, a1, a2, a3, a4, a5, a6, a7⟩ := hS
  refine qC.of 0 (by decide) (le_b rfl) ?_
  refine qV_aload_n (pc := 0) 0 dX4_empties_0 rfl rfl ?_
  refine qV_iconst (pc := 1) dX4_empties_1 ?_
  refine qV_put (pc := 2) kX4 1 (le_b rfl) lk_X4_18 rfl rfl rfl rfl dX4_empties_2 (by first | assumption | exact hU_self _ _ _ | (refine (hU_ne (by omega)).trans ?_; first | assumption | exact hU_self _ _ _ | (refine (hU_ne (by omega)).trans ?_; first | assumption | exact hU_self _ _ _ | (refine (hU_ne (by omega)).trans ?_; first | assumption | exact hU_self _ _ _)))) (by exact le_b rfl) ?_
  refine qV_vret (pc := 5) dX4_empties_5 rfl (le_b rfl) (le_b rfl) ?_
  have f2 : ∀ y : qE, Fr h (hU h g y) g (g + 1) := fun y => Fr.hU (by omega) (by omega)
  refine ⟨rfl, ⟨f, σ, a1, a2, hU_self _ _ _, (hU_ne (by omega)).trans a4, a5, fun i hi => ?_, by omega⟩, (f2 _).wide (by omega) (by omega), rfl⟩
  obtain ⟨E, e1, e2⟩ := a6 i hi
  exact ⟨E, e1.fr (f2 _) (by omega), fun q => by omega⟩
set_option maxRecDepth 100000 in
set_option maxHeartbeats 4000000 in
theorem c_slot {q : Int} {i a : Nat} {f : Nat → Option Nat} (ho : h g = some (oB 4 [.ref (g + 1), vI z])) (ha : h (g + 1) = some (rA 3 4 f)) (hq : q = i) (hi : i < 4) (hf : f i = some a) : qRd l mX4_slot [.ref g, vI q] h sz (.ref a) := by
  subst hq
  refine qC.of 0 (by decide) (le_b rfl) ?_
  refine qV_iload_n (pc := 0) 1 dX4_slot_0 rfl rfl ?_
  refine qV_iflt (pc := 1) 22 dX4_slot_1 (by decide) ⟨by omega, by omega⟩ (fun c1 => ?_) (fun c1 => ?_)
  · exfalso; omega
  · refine qV_iload_n (pc := 4) 1 dX4_slot_4 rfl rfl ?_
    refine qV_aload_n (pc := 5) 0 dX4_slot_5 rfl rfl ?_
    refine qV_get (pc := 6) kX4 0 (le_b rfl) lk_X4_11 rfl dX4_slot_6 (by first | assumption | exact hU_self _ _ _ | (refine (hU_ne (by omega)).trans ?_; first | assumption | exact hU_self _ _ _ | (refine (hU_ne (by omega)).trans ?_; first | assumption | exact hU_self _ _ _ | (refine (hU_ne (by omega)).trans ?_; first | assumption | exact hU_self _ _ _)))) (by exact rfl) ?_
    refine qV_alenR (pc := 9) dX4_slot_9 (by first | assumption | exact hU_self _ _ _ | (refine (hU_ne (by omega)).trans ?_; first | assumption | exact hU_self _ _ _ | (refine (hU_ne (by omega)).trans ?_; first | assumption | exact hU_self _ _ _ | (refine (hU_ne (by omega)).trans ?_; first | assumption | exact hU_self _ _ _)))) ?_
    refine qV_icmp_ge (pc := 10) 22 dX4_slot_10 (by decide) ⟨by omega, by omega⟩ ⟨by omega, by omega⟩ (fun c10 => ?_) (fun c10 => ?_)
    · exfalso; omega
    · refine qV_aload_n (pc := 13) 0 dX4_slot_13 rfl rfl ?_
      refine qV_get (pc := 14) kX4 0 (le_b rfl) lk_X4_11 rfl dX4_slot_14 (by first | assumption | exact hU_self _ _ _ | (refine (hU_ne (by omega)).trans ?_; first | assumption | exact hU_self _ _ _ | (refine (hU_ne (by omega)).trans ?_; first | assumption | exact hU_self _ _ _ | (refine (hU_ne (by omega)).trans ?_; first | assumption | exact hU_self _ _ _)))) (by exact rfl) ?_
      refine qV_iload_n (pc := 17) 1 dX4_slot_17 rfl rfl ?_
      refine qV_aald (pc := 18) rfl dX4_slot_18 ha (by omega) ?_
      rw [show f ((i : Int)).toNat = some a from hf]
      refine qV_goto (pc := 19) 23 dX4_slot_19 (by decide) ?_
      refine qV_aret (pc := 23) dX4_slot_23 rfl (Or.inl ⟨_, rfl⟩) (by first | exact Or.inl rfl | exact Or.inr ⟨_, rfl⟩) (le_b rfl) (le_b rfl) ?_
      exact ⟨rfl, rfl, rfl⟩
set_option maxRecDepth 100000 in
set_option maxHeartbeats 4000000 in
theorem touch_loop {x k : Int} (hS : Stg h g S z) (hx : 0 ≤ x ∧ x ≤ 5000) (hk : 0 ≤ k ∧ k ≤ 5000) (hb : ∀ i, i < z → (S i).1 ≤ 5000 ∧ (S i).2.1 ≤ 5000) : ∀ (m i : Nat) (q : Int) (x4 : Option Value), z - i = m → i ≤ z → q = i → (∀ j, j < i → ¬ mts (S j) x k) → qVM l mX4_touches 0 0 h sz (fun v h' sz' => v = some (vB (tch S x k z = true)) ∧ h' = h ∧ sz' = sz) 0 0 h sz 2 [some (.ref g), some (vI x), some (vI k), some (vI q), x4] [] := by
  obtain ⟨f, σ, a1, a2, a3, a4, a5, a6, a7⟩ := hS
  intro m
  induction m with
  | zero =>
    intro i q x4 hm hi hq hno
    obtain rfl : i = z := by omega
    have e0 : ¬ tch S x k i = true := fun e => by
      obtain ⟨j, h1, h2⟩ := (tch_iff S x k i).mp e
      exact hno j h1 h2
    refine qV_iload_n (pc := 2) 3 dX4_touches_2 rfl rfl ?_
    refine qV_aload_n (pc := 3) 0 dX4_touches_3 rfl rfl ?_
    refine qV_get (pc := 4) kX4 1 (le_b rfl) lk_X4_18 rfl dX4_touches_4 (by first | assumption | exact hU_self _ _ _ | (refine (hU_ne (by omega)).trans ?_; first | assumption | exact hU_self _ _ _ | (refine (hU_ne (by omega)).trans ?_; first | assumption | exact hU_self _ _ _ | (refine (hU_ne (by omega)).trans ?_; first | assumption | exact hU_self _ _ _)))) (by exact rfl) ?_
    refine qV_icmp_ge (pc := 7) 40 dX4_touches_7 (by decide) ⟨by omega, by omega⟩ ⟨by omega, by omega⟩ (fun c7 => ?_) (fun c7 => ?_)
    · refine qV_iconst (pc := 40) dX4_touches_40 ?_
      refine qV_zret (pc := 41) dX4_touches_41 rfl (by first | exact Or.inl rfl | exact Or.inr rfl) (le_b rfl) (le_b rfl) ?_
      exact ⟨by rw [vB, if_neg e0], rfl, rfl⟩
    · exfalso; omega
  | succ m ih =>
    intro i q x4 hm hi hq hno
    obtain ⟨E, e1, e2⟩ := a6 i (by omega)
    obtain rfl := e2 (by omega)
    have b := hb i (by omega)
    have ho := e1.1
    refine qV_iload_n (pc := 2) 3 dX4_touches_2 rfl rfl ?_
    refine qV_aload_n (pc := 3) 0 dX4_touches_3 rfl rfl ?_
    refine qV_get (pc := 4) kX4 1 (le_b rfl) lk_X4_18 rfl dX4_touches_4 (by first | assumption | exact hU_self _ _ _ | (refine (hU_ne (by omega)).trans ?_; first | assumption | exact hU_self _ _ _ | (refine (hU_ne (by omega)).trans ?_; first | assumption | exact hU_self _ _ _ | (refine (hU_ne (by omega)).trans ?_; first | assumption | exact hU_self _ _ _)))) (by exact rfl) ?_
    refine qV_icmp_ge (pc := 7) 40 dX4_touches_7 (by decide) ⟨by omega, by omega⟩ ⟨by omega, by omega⟩ (fun c7 => ?_) (fun c7 => ?_)
    · exfalso; omega
    · refine qV_aload_n (pc := 10) 0 dX4_touches_10 rfl rfl ?_
      refine qV_iload_n (pc := 11) 3 dX4_touches_11 rfl rfl ?_
      refine qV_rdV (pc := 12) (c_slot a3 a4 hq (by omega) (a5 i (by omega))) nX4_slot kX4 lk_X4_22 dX4_touches_12 (by first | assumption | exact hU_self _ _ _ | (refine (hU_ne (by omega)).trans ?_; first | assumption | exact hU_self _ _ _ | (refine (hU_ne (by omega)).trans ?_; first | assumption | exact hU_self _ _ _ | (refine (hU_ne (by omega)).trans ?_; first | assumption | exact hU_self _ _ _)))) ⟨le_b rfl, le_b rfl⟩ ⟨le_b rfl, le_b rfl⟩ rfl (le_b rfl) ?_
      refine qV_astore (pc := 15) 4 dX4_touches_15 (le_b rfl) (le_b rfl) rfl ?_
      refine qV_aload (pc := 17) 4 dX4_touches_17 rfl ?_
      refine qV_ifnull (pc := 19) dX4_touches_19 ?_
      refine qV_aload (pc := 22) 4 dX4_touches_22 rfl ?_
      refine qV_iload_n (pc := 24) 1 dX4_touches_24 rfl rfl ?_
      refine qV_iload_n (pc := 25) 2 dX4_touches_25 rfl rfl ?_
      refine qV_rdV (pc := 26) (c_meets e1 hx hk b) nX0_meets kX0 lk_X4_26 dX4_touches_26 (by first | assumption | exact hU_self _ _ _ | (refine (hU_ne (by omega)).trans ?_; first | assumption | exact hU_self _ _ _ | (refine (hU_ne (by omega)).trans ?_; first | assumption | exact hU_self _ _ _ | (refine (hU_ne (by omega)).trans ?_; first | assumption | exact hU_self _ _ _)))) ⟨le_b rfl, le_b rfl⟩ ⟨le_b rfl, le_b rfl⟩ rfl (le_b rfl) ?_
      refine qV_ifeqB (pc := 29) 34 dX4_touches_29 (by decide) (fun c29 => ?_) (fun c29 => ?_)
      · refine qV_iinc (pc := 34) 3 dX4_touches_34 rfl (le_b rfl) (le_b rfl) rfl ?_
        refine qV_goto (pc := 37) 2 dX4_touches_37 (by decide) ?_
        refine ih (i + 1) _ _ (by omega) (by omega) (by omega) (fun j hj => ?_)
        by_cases e : j = i
        · subst e; exact c29
        · exact hno j (by omega)
      · refine qV_iconst (pc := 32) dX4_touches_32 ?_
        refine qV_zret (pc := 33) dX4_touches_33 rfl (by first | exact Or.inl rfl | exact Or.inr rfl) (le_b rfl) (le_b rfl) ?_
        have e0 : tch S x k z = true := (tch_iff S x k z).mpr ⟨i, by omega, c29⟩
        exact ⟨by rw [vB, if_pos e0], rfl, rfl⟩
set_option maxRecDepth 100000 in
set_option maxHeartbeats 4000000 in
theorem c_touches {x k : Int} (hS : Stg h g S z) (hx : 0 ≤ x ∧ x ≤ 5000) (hk : 0 ≤ k ∧ k ≤ 5000) (hb : ∀ i, i < z → (S i).1 ≤ 5000 ∧ (S i).2.1 ≤ 5000) : qRd l mX4_touches [.ref g, vI x, vI k] h sz (vB (tch S x k z = true)) := by
  refine qC.of 2 (by decide) (le_b rfl) ?_
  refine qV_iconst (pc := 0) dX4_touches_0 ?_
  refine qV_istore_n (pc := 1) 3 dX4_touches_1 rfl (le_b rfl) (le_b rfl) rfl ?_
  exact touch_loop hS hx hk hb z 0 _ _ (by omega) (by omega) rfl (fun j hj => by omega)
set_option maxRecDepth 100000 in
set_option maxHeartbeats 4000000 in
theorem grow_loop (hS : Stg h g S z) : ∀ (m i : Nat) (q : Int) (x3 : Option Value), z - i = m → i ≤ z → q = i → qVM l mX4_growth 0 0 h sz (fun v h' sz' => v = some (vI (grw S z)) ∧ h' = h ∧ sz' = sz) 0 0 h sz 4 [some (.ref g), some (vI (grw S i)), some (vI q), x3] [] := by
  obtain ⟨f, σ, a1, a2, a3, a4, a5, a6, a7⟩ := hS
  intro m
  induction m with
  | zero =>
    intro i q x3 hm hi hq
    obtain rfl : i = z := by omega
    refine qV_iload_n (pc := 4) 2 dX4_growth_4 rfl rfl ?_
    refine qV_aload_n (pc := 5) 0 dX4_growth_5 rfl rfl ?_
    refine qV_get (pc := 6) kX4 1 (le_b rfl) lk_X4_18 rfl dX4_growth_6 (by first | assumption | exact hU_self _ _ _ | (refine (hU_ne (by omega)).trans ?_; first | assumption | exact hU_self _ _ _ | (refine (hU_ne (by omega)).trans ?_; first | assumption | exact hU_self _ _ _ | (refine (hU_ne (by omega)).trans ?_; first | assumption | exact hU_self _ _ _)))) (by exact rfl) ?_
    refine qV_icmp_ge (pc := 9) 39 dX4_growth_9 (by decide) ⟨by omega, by omega⟩ ⟨by omega, by omega⟩ (fun c9 => ?_) (fun c9 => ?_)
    · refine qV_iload_n (pc := 39) 1 dX4_growth_39 rfl rfl ?_
      refine qV_iret (pc := 40) dX4_growth_40 rfl (le_b rfl) (le_b rfl) ?_
      exact ⟨rfl, rfl, rfl⟩
    · exfalso; omega
  | succ m ih =>
    intro i q x3 hm hi hq
    obtain ⟨E, e1, e2⟩ := a6 i (by omega)
    obtain rfl := e2 (by omega)
    have ho := e1.1
    refine qV_iload_n (pc := 4) 2 dX4_growth_4 rfl rfl ?_
    refine qV_aload_n (pc := 5) 0 dX4_growth_5 rfl rfl ?_
    refine qV_get (pc := 6) kX4 1 (le_b rfl) lk_X4_18 rfl dX4_growth_6 (by first | assumption | exact hU_self _ _ _ | (refine (hU_ne (by omega)).trans ?_; first | assumption | exact hU_self _ _ _ | (refine (hU_ne (by omega)).trans ?_; first | assumption | exact hU_self _ _ _ | (refine (hU_ne (by omega)).trans ?_; first | assumption | exact hU_self _ _ _)))) (by exact rfl) ?_
    refine qV_icmp_ge (pc := 9) 39 dX4_growth_9 (by decide) ⟨by omega, by omega⟩ ⟨by omega, by omega⟩ (fun c9 => ?_) (fun c9 => ?_)
    · exfalso; omega
    · refine qV_aload_n (pc := 12) 0 dX4_growth_12 rfl rfl ?_
      refine qV_iload_n (pc := 13) 2 dX4_growth_13 rfl rfl ?_
      refine qV_rdV (pc := 14) (c_slot a3 a4 hq (by omega) (a5 i (by omega))) nX4_slot kX4 lk_X4_22 dX4_growth_14 (by first | assumption | exact hU_self _ _ _ | (refine (hU_ne (by omega)).trans ?_; first | assumption | exact hU_self _ _ _ | (refine (hU_ne (by omega)).trans ?_; first | assumption | exact hU_self _ _ _ | (refine (hU_ne (by omega)).trans ?_; first | assumption | exact hU_self _ _ _)))) ⟨le_b rfl, le_b rfl⟩ ⟨le_b rfl, le_b rfl⟩ rfl (le_b rfl) ?_
      refine qV_astore_n (pc := 17) 3 dX4_growth_17 rfl (le_b rfl) (le_b rfl) rfl ?_
      refine qV_iload_n (pc := 18) 1 dX4_growth_18 rfl rfl ?_
      refine qV_aload_n (pc := 19) 3 dX4_growth_19 rfl rfl ?_
      refine qV_ifnonnull (pc := 20) 27 dX4_growth_20 (by decide) ?_
      refine qV_aload_n (pc := 27) 3 dX4_growth_27 rfl rfl ?_
      refine qV_rdV (pc := 28) (c_bytesMore e1) nX0_bytesMore kX0 lk_X4_30 dX4_growth_28 (by first | assumption | exact hU_self _ _ _ | (refine (hU_ne (by omega)).trans ?_; first | assumption | exact hU_self _ _ _ | (refine (hU_ne (by omega)).trans ?_; first | assumption | exact hU_self _ _ _ | (refine (hU_ne (by omega)).trans ?_; first | assumption | exact hU_self _ _ _)))) ⟨le_b rfl, le_b rfl⟩ ⟨le_b rfl, le_b rfl⟩ rfl (le_b rfl) ?_
      refine qV_iadd (pc := 31) dX4_growth_31 ?_
      refine qV_istore_n (pc := 32) 1 dX4_growth_32 rfl (le_b rfl) (le_b rfl) rfl ?_
      refine qV_iinc (pc := 33) 2 dX4_growth_33 rfl (le_b rfl) (le_b rfl) rfl ?_
      refine qV_goto (pc := 36) 4 dX4_growth_36 (by decide) ?_
      exact ih (i + 1) _ _ (by omega) (by omega) (by omega)
set_option maxRecDepth 100000 in
set_option maxHeartbeats 4000000 in
theorem c_growth (hS : Stg h g S z) : qRd l mX4_growth [.ref g] h sz (vI (grw S z)) := by
  refine qC.of 3 (by decide) (le_b rfl) ?_
  refine qV_iconst (pc := 0) dX4_growth_0 ?_
  refine qV_istore_n (pc := 1) 1 dX4_growth_1 rfl (le_b rfl) (le_b rfl) rfl ?_
  refine qV_iconst (pc := 2) dX4_growth_2 ?_
  refine qV_istore_n (pc := 3) 2 dX4_growth_3 rfl (le_b rfl) (le_b rfl) rfl ?_
  exact grow_loop hS z 0 _ _ (by omega) (by omega) rfl
set_option maxRecDepth 100000 in
set_option maxHeartbeats 4000000 in
theorem c_isBehind {q x : Int} {i a : Nat} {E : ED} {f : Nat → Option Nat} (ho : h g = some (oB 4 [.ref (g + 1), vI z])) (ha : h (g + 1) = some (rA 3 4 f)) (hq : q = i) (hi : i < 4) (hf : f i = some a) (hE : Edit h a E) (hx : iR x) (hb : E.1 ≤ 5000) : qRd l mX4_isBehind [.ref g, vI q, vI x] h sz (vB (x < (E.1 : Int))) := by
  have hE1 := hE.1
  refine qC.of 1 (by decide) (le_b rfl) ?_
  refine qV_aload_n (pc := 0) 0 dX4_isBehind_0 rfl rfl ?_
  refine qV_iload_n (pc := 1) 1 dX4_isBehind_1 rfl rfl ?_
  refine qV_rdV (pc := 2) (c_slot ho ha hq hi hf) nX4_slot kX4 lk_X4_22 dX4_isBehind_2 (by first | assumption | exact hU_self _ _ _ | (refine (hU_ne (by omega)).trans ?_; first | assumption | exact hU_self _ _ _ | (refine (hU_ne (by omega)).trans ?_; first | assumption | exact hU_self _ _ _ | (refine (hU_ne (by omega)).trans ?_; first | assumption | exact hU_self _ _ _)))) ⟨le_b rfl, le_b rfl⟩ ⟨le_b rfl, le_b rfl⟩ rfl (le_b rfl) ?_
  refine qV_astore_n (pc := 5) 3 dX4_isBehind_5 rfl (le_b rfl) (le_b rfl) rfl ?_
  refine qV_aload_n (pc := 6) 3 dX4_isBehind_6 rfl rfl ?_
  refine qV_ifnull (pc := 7) dX4_isBehind_7 ?_
  refine qV_aload_n (pc := 10) 3 dX4_isBehind_10 rfl rfl ?_
  refine qV_iload_n (pc := 11) 2 dX4_isBehind_11 rfl rfl ?_
  refine qV_rdV (pc := 12) (c_beginsBehind hE hx hb) nX0_beginsBehind kX0 lk_X4_41 dX4_isBehind_12 (by first | assumption | exact hU_self _ _ _ | (refine (hU_ne (by omega)).trans ?_; first | assumption | exact hU_self _ _ _ | (refine (hU_ne (by omega)).trans ?_; first | assumption | exact hU_self _ _ _ | (refine (hU_ne (by omega)).trans ?_; first | assumption | exact hU_self _ _ _)))) ⟨le_b rfl, le_b rfl⟩ ⟨le_b rfl, le_b rfl⟩ rfl (le_b rfl) ?_
  refine qV_ifeqB (pc := 15) 22 dX4_isBehind_15 (by decide) (fun c15 => ?_) (fun c15 => ?_)
  · refine qV_iconst (pc := 22) dX4_isBehind_22 ?_
    refine qV_zret (pc := 23) dX4_isBehind_23 rfl (by first | exact Or.inl rfl | exact Or.inr rfl) (le_b rfl) (le_b rfl) ?_
    first | exact ⟨by rw [vB, if_pos c15], rfl, rfl⟩ | exact ⟨by rw [vB, if_neg c15], rfl, rfl⟩
  · refine qV_iconst (pc := 18) dX4_isBehind_18 ?_
    refine qV_goto (pc := 19) 23 dX4_isBehind_19 (by decide) ?_
    refine qV_zret (pc := 23) dX4_isBehind_23 rfl (by first | exact Or.inl rfl | exact Or.inr rfl) (le_b rfl) (le_b rfl) ?_
    first | exact ⟨by rw [vB, if_pos c15], rfl, rfl⟩ | exact ⟨by rw [vB, if_neg c15], rfl, rfl⟩
set_option maxRecDepth 100000 in
set_option maxHeartbeats 4000000 in
theorem adds_loop {x : Int} {i k m o : Nat} {W : Nat → Int} {F : Nat → Option Nat} {σ : Nat → Nat} (hz : z < 4) (hx : x = i) (hi5 : i ≤ 5000) (hb : ∀ i, i < z → (S i).1 ≤ 5000 ∧ (S i).2.1 ≤ 5000) (s1 : ∀ i, i < 4 → σ i < 4) (s2 : ∀ i j, i < 4 → j < 4 → σ i = σ j → i = j) (s3 : ∀ j, j < 4 → F j = some (g + 2 + 3 * σ j)) : ∀ (c : Nat) (q : Int) (h1 : qH) (f : Nat → Option Nat), c ≤ z → q = c → pos S x c = pos S x z → h1 g = some (oB 4 [.ref (g + 1), vI z]) → h1 (g + 1) = some (rA 3 4 f) → (∀ j, j < c → f j = F j) → (∀ j, c < j → j ≤ z → f j = F (j - 1)) → (∀ j, z < j → j < 4 → f j = F j) → (∀ j, j < z → Edit h1 (g + 2 + 3 * σ j) (S j)) → Edit h1 (g + 2 + 3 * σ z) (i, k, m, W) → (∀ j, z < j → j < 4 → ∃ E, Edit h1 (g + 2 + 3 * σ j) E) → Fr h h1 g (g + 14) → qVM l mX4_adds 0 0 h sz (fun v h' sz' => v = none ∧ Stg h' g (insS S (pos S x z) (i, k, m, W)) (z + 1) ∧ Fr h h' g (g + 14) ∧ sz' = sz) 0 0 h1 sz 30 [some (.ref g), some (vI x), some (vI k), some (.ref o), some (.ref (g + 2 + 3 * σ z)), some (vI q)] [] := by
  have hsz := s1 z hz
  have hfin : ∀ (c : Nat) (q : Int) (h1 : qH) (f : Nat → Option Nat), c ≤ z → q = c → c = pos S x z → h1 g = some (oB 4 [.ref (g + 1), vI z]) → h1 (g + 1) = some (rA 3 4 f) → (∀ j, j < c → f j = F j) → (∀ j, c < j → j ≤ z → f j = F (j - 1)) → (∀ j, z < j → j < 4 → f j = F j) → (∀ j, j < z → Edit h1 (g + 2 + 3 * σ j) (S j)) → Edit h1 (g + 2 + 3 * σ z) (i, k, m, W) → (∀ j, z < j → j < 4 → ∃ E, Edit h1 (g + 2 + 3 * σ j) E) → Fr h h1 g (g + 14) → qVM l mX4_adds 0 0 h sz (fun v h' sz' => v = none ∧ Stg h' g (insS S (pos S x z) (i, k, m, W)) (z + 1) ∧ Fr h h' g (g + 14) ∧ sz' = sz) 0 0 h1 sz 78 [some (.ref g), some (vI x), some (vI k), some (.ref o), some (.ref (g + 2 + 3 * σ z)), some (vI q)] [] := by
    intro c q h1 f hc hq hp ho ha f1 f2 f3 e1 e2 e3 hf
    have ee := e2.1
    refine qV_iload (pc := 78) 5 dX4_adds_78 rfl ?_
    refine qV_iflt (pc := 80) 102 dX4_adds_80 (by decide) ⟨by omega, by omega⟩ (fun c80 => ?_) (fun c80 => ?_)
    · exfalso; omega
    · refine qV_iload (pc := 83) 5 dX4_adds_83 rfl ?_
      refine qV_aload_n (pc := 85) 0 dX4_adds_85 rfl rfl ?_
      refine qV_get (pc := 86) kX4 0 (le_b rfl) lk_X4_11 rfl dX4_adds_86 (by first | assumption | exact hU_self _ _ _ | (refine (hU_ne (by omega)).trans ?_; first | assumption | exact hU_self _ _ _ | (refine (hU_ne (by omega)).trans ?_; first | assumption | exact hU_self _ _ _ | (refine (hU_ne (by omega)).trans ?_; first | assumption | exact hU_self _ _ _)))) (by exact rfl) ?_
      refine qV_alenR (pc := 89) dX4_adds_89 (by first | assumption | exact hU_self _ _ _ | (refine (hU_ne (by omega)).trans ?_; first | assumption | exact hU_self _ _ _ | (refine (hU_ne (by omega)).trans ?_; first | assumption | exact hU_self _ _ _ | (refine (hU_ne (by omega)).trans ?_; first | assumption | exact hU_self _ _ _)))) ?_
      refine qV_icmp_ge (pc := 90) 102 dX4_adds_90 (by decide) ⟨by omega, by omega⟩ ⟨by omega, by omega⟩ (fun c90 => ?_) (fun c90 => ?_)
      · exfalso; omega
      · refine qV_aload_n (pc := 93) 0 dX4_adds_93 rfl rfl ?_
        refine qV_get (pc := 94) kX4 0 (le_b rfl) lk_X4_11 rfl dX4_adds_94 (by first | assumption | exact hU_self _ _ _ | (refine (hU_ne (by omega)).trans ?_; first | assumption | exact hU_self _ _ _ | (refine (hU_ne (by omega)).trans ?_; first | assumption | exact hU_self _ _ _ | (refine (hU_ne (by omega)).trans ?_; first | assumption | exact hU_self _ _ _)))) (by exact rfl) ?_
        refine qV_iload (pc := 97) 5 dX4_adds_97 rfl ?_
        refine qV_aload (pc := 99) 4 dX4_adds_99 rfl ?_
        refine qV_aast (pc := 101) kX0 rfl dX4_adds_101 ha ee (by omega) ?_
        refine qV_aload_n (pc := 102) 0 dX4_adds_102 rfl rfl ?_
        refine qV_dup (pc := 103) dX4_adds_103 rfl ?_
        refine qV_get (pc := 104) kX4 1 (le_b rfl) lk_X4_18 rfl dX4_adds_104 (by first | assumption | exact hU_self _ _ _ | (refine (hU_ne (by omega)).trans ?_; first | assumption | exact hU_self _ _ _ | (refine (hU_ne (by omega)).trans ?_; first | assumption | exact hU_self _ _ _ | (refine (hU_ne (by omega)).trans ?_; first | assumption | exact hU_self _ _ _)))) (by exact rfl) ?_
        refine qV_iconst (pc := 107) dX4_adds_107 ?_
        refine qV_iadd (pc := 108) dX4_adds_108 ?_
        refine qV_put (pc := 109) kX4 1 (le_b rfl) lk_X4_18 rfl rfl rfl rfl dX4_adds_109 (by first | assumption | exact hU_self _ _ _ | (refine (hU_ne (by omega)).trans ?_; first | assumption | exact hU_self _ _ _ | (refine (hU_ne (by omega)).trans ?_; first | assumption | exact hU_self _ _ _ | (refine (hU_ne (by omega)).trans ?_; first | assumption | exact hU_self _ _ _)))) (by exact le_b rfl) ?_
        refine qV_vret (pc := 112) dX4_adds_112 rfl (le_b rfl) (le_b rfl) ?_
        rw [show q.toNat = c by omega]
        have fa : ∀ y : qE, Fr h1 (hU h1 (g + 1) y) g (g + 2) := fun y => Fr.hU (by omega) (by omega)
        have fb : ∀ (h2 : qH) (y : qE), Fr h2 (hU h2 g y) g (g + 2) := fun h2 y => Fr.hU (by omega) (by omega)
        have hff := (fa (rA 3 4 (va_up f c (some (g + 2 + 3 * σ z))))).trans (fb _ (oB 4 [.ref (g + 1), vI ((z : Int) + 1)]))
        refine ⟨rfl, ⟨va_up f c (some (g + 2 + 3 * σ z)), fun j => σ (if j < c then j else if j = c then z else if j ≤ z then j - 1 else j), fun j hj => s1 _ (by split <;> (try split) <;> (try split) <;> omega), fun a b ha hb e => ?_, hU_self _ _ _, (hU_ne (by omega)).trans (hU_self _ _ _), fun j hj => ?_, fun j hj => ?_, by omega⟩, hf.trans (hff.wide (by omega) (by omega)), rfl⟩
        · have := s2 _ _ (by split <;> (try split) <;> (try split) <;> omega) (by split <;> (try split) <;> (try split) <;> omega) e
          revert this
          clear e
          repeat' split
          all_goals (intro this; omega)
        · by_cases a1 : j < c
          · rw [va_up_ne _ _ (by omega), f1 j a1, s3 j hj]; simp only [a1, if_true]
          · by_cases a2 : j = c
            · subst a2; rw [va_up_self]; simp
            · rw [va_up_ne _ _ a2]
              by_cases a3 : j ≤ z
              · rw [f2 j (by omega) a3, s3 _ (by omega)]; simp only [a1, a2, a3, if_true, if_false]
              · rw [f3 j (by omega) hj, s3 j hj]; simp only [a1, a2, a3, if_false]
        · by_cases a1 : j < c
          · refine ⟨S j, ?_, fun _ => ?_⟩
            · simp only [a1, if_true]
              exact (e1 j (by omega)).fr hff (by omega)
            · simp only [insS, ← hp]; rw [if_pos a1]
          · by_cases a2 : j = c
            · refine ⟨(i, k, m, W), ?_, fun _ => ?_⟩
              · simp only [a1, a2, Nat.lt_irrefl, if_true, if_false]
                exact e2.fr hff (by omega)
              · simp only [insS, ← hp]; rw [if_neg a1, if_pos a2]
            · by_cases a3 : j ≤ z
              · refine ⟨S (j - 1), ?_, fun _ => ?_⟩
                · simp only [a1, a2, a3, if_true, if_false]
                  exact (e1 (j - 1) (by omega)).fr hff (by omega)
                · simp only [insS, ← hp]; rw [if_neg a1, if_neg a2]
              · obtain ⟨E, e4⟩ := e3 j (by omega) hj
                refine ⟨E, ?_, fun _ => by omega⟩
                simp only [a1, a2, a3, if_false]
                exact e4.fr hff (by omega)
  intro c
  induction c with
  | zero =>
    intro q h1 f hc hq hp ho ha f1 f2 f3 e1 e2 e3 hf
    refine qV_iload (pc := 30) 5 dX4_adds_30 rfl ?_
    refine qV_ifle (pc := 32) 78 dX4_adds_32 (by decide) ⟨by omega, by omega⟩ (fun c32 => ?_) (fun c32 => ?_)
    · exact hfin 0 q h1 f hc hq hp ho ha f1 f2 f3 e1 e2 e3 hf
    · exfalso; omega
  | succ c ih =>
    intro q h1 f hc hq hp ho ha f1 f2 f3 e1 e2 e3 hf
    have hfc : f c = some (g + 2 + 3 * σ c) := (f1 c (by omega)).trans (s3 c (by omega))
    have hec := e1 c (by omega)
    have hbc := hb c (by omega)
    have hec1 := hec.1
    have hsc := s1 c (by omega)
    refine qV_iload (pc := 30) 5 dX4_adds_30 rfl ?_
    refine qV_ifle (pc := 32) 78 dX4_adds_32 (by decide) ⟨by omega, by omega⟩ (fun c32 => ?_) (fun c32 => ?_)
    · exfalso; omega
    · refine qV_iload (pc := 35) 5 dX4_adds_35 rfl ?_
      refine qV_aload_n (pc := 37) 0 dX4_adds_37 rfl rfl ?_
      refine qV_get (pc := 38) kX4 0 (le_b rfl) lk_X4_11 rfl dX4_adds_38 (by first | assumption | exact hU_self _ _ _ | (refine (hU_ne (by omega)).trans ?_; first | assumption | exact hU_self _ _ _ | (refine (hU_ne (by omega)).trans ?_; first | assumption | exact hU_self _ _ _ | (refine (hU_ne (by omega)).trans ?_; first | assumption | exact hU_self _ _ _)))) (by exact rfl) ?_
      refine qV_alenR (pc := 41) dX4_adds_41 (by first | assumption | exact hU_self _ _ _ | (refine (hU_ne (by omega)).trans ?_; first | assumption | exact hU_self _ _ _ | (refine (hU_ne (by omega)).trans ?_; first | assumption | exact hU_self _ _ _ | (refine (hU_ne (by omega)).trans ?_; first | assumption | exact hU_self _ _ _)))) ?_
      refine qV_icmp_ge (pc := 42) 78 dX4_adds_42 (by decide) ⟨by omega, by omega⟩ ⟨by omega, by omega⟩ (fun c42 => ?_) (fun c42 => ?_)
      · exfalso; omega
      · refine qV_aload_n (pc := 45) 0 dX4_adds_45 rfl rfl ?_
        refine qV_iload (pc := 46) 5 dX4_adds_46 rfl ?_
        refine qV_iconst (pc := 48) dX4_adds_48 ?_
        refine qV_isub (pc := 49) dX4_adds_49 ?_
        refine qV_iload_n (pc := 50) 1 dX4_adds_50 rfl rfl ?_
        refine qV_rdV (pc := 51) (c_isBehind (i := c) ho ha (by omega) (by omega) hfc hec ⟨by omega, by omega⟩ hbc.1) nX4_isBehind kX4 lk_X4_38 dX4_adds_51 (by first | assumption | exact hU_self _ _ _ | (refine (hU_ne (by omega)).trans ?_; first | assumption | exact hU_self _ _ _ | (refine (hU_ne (by omega)).trans ?_; first | assumption | exact hU_self _ _ _ | (refine (hU_ne (by omega)).trans ?_; first | assumption | exact hU_self _ _ _)))) ⟨le_b rfl, le_b rfl⟩ ⟨le_b rfl, le_b rfl⟩ rfl (le_b rfl) ?_
        refine qV_ifeqB (pc := 54) 78 dX4_adds_54 (by decide) (fun c54 => ?_) (fun c54 => ?_)
        · exact hfin (c + 1) q h1 f hc hq (by rw [← hp]; simp only [pos]; rw [if_neg c54]) ho ha f1 f2 f3 e1 e2 e3 hf
        · refine qV_aload_n (pc := 57) 0 dX4_adds_57 rfl rfl ?_
          refine qV_get (pc := 58) kX4 0 (le_b rfl) lk_X4_11 rfl dX4_adds_58 (by first | assumption | exact hU_self _ _ _ | (refine (hU_ne (by omega)).trans ?_; first | assumption | exact hU_self _ _ _ | (refine (hU_ne (by omega)).trans ?_; first | assumption | exact hU_self _ _ _ | (refine (hU_ne (by omega)).trans ?_; first | assumption | exact hU_self _ _ _)))) (by exact rfl) ?_
          refine qV_iload (pc := 61) 5 dX4_adds_61 rfl ?_
          refine qV_aload_n (pc := 63) 0 dX4_adds_63 rfl rfl ?_
          refine qV_iload (pc := 64) 5 dX4_adds_64 rfl ?_
          refine qV_iconst (pc := 66) dX4_adds_66 ?_
          refine qV_isub (pc := 67) dX4_adds_67 ?_
          refine qV_rdV (pc := 68) (c_slot (i := c) ho ha (by omega) (by omega) hfc) nX4_slot kX4 lk_X4_22 dX4_adds_68 (by first | assumption | exact hU_self _ _ _ | (refine (hU_ne (by omega)).trans ?_; first | assumption | exact hU_self _ _ _ | (refine (hU_ne (by omega)).trans ?_; first | assumption | exact hU_self _ _ _ | (refine (hU_ne (by omega)).trans ?_; first | assumption | exact hU_self _ _ _)))) ⟨le_b rfl, le_b rfl⟩ ⟨le_b rfl, le_b rfl⟩ rfl (le_b rfl) ?_
          refine qV_aast (pc := 71) kX0 rfl dX4_adds_71 ha hec1 (by omega) ?_
          refine qV_iinc (pc := 72) 5 dX4_adds_72 rfl (le_b rfl) (le_b rfl) rfl ?_
          refine qV_goto (pc := 75) 30 dX4_adds_75 (by decide) ?_
          rw [show q.toNat = c + 1 by omega]
          have fa : ∀ y : qE, Fr h1 (hU h1 (g + 1) y) (g + 1) (g + 2) := fun y => Fr.hU (by omega) (by omega)
          refine ih _ _ _ (by omega) (by omega) (by rw [← hp]; simp only [pos]; rw [if_pos c54]) ((hU_ne (by omega)).trans ho) (hU_self _ _ _) (fun j hj => ?_) (fun j hj hj2 => ?_) (fun j hj hj2 => ?_) (fun j hj => (e1 j hj).fr (fa _) (by omega)) (e2.fr (fa _) (by omega)) (fun j hj hj2 => ?_) (hf.trans ((fa _).wide (by omega) (by omega)))
          · rw [va_up_ne _ _ (by omega)]; exact f1 j (by omega)
          · by_cases e : j = c + 1
            · subst e; rw [va_up_self, show c + 1 - 1 = c by omega, s3 c (by omega)]
            · rw [va_up_ne _ _ e]; exact f2 j (by omega) hj2
          · rw [va_up_ne _ _ (by omega)]; exact f3 j hj hj2
          · obtain ⟨E, e4⟩ := e3 j hj hj2
            exact ⟨E, e4.fr (fa _) (by omega)⟩
set_option maxRecDepth 100000 in
set_option maxHeartbeats 4000000 in
theorem c_adds {x q : Int} {i k m o No : Nat} {W : Nat → Int} (hS : Stg h g S z) (hz : z < 4) (hx : x = i) (hq : q = k) (hi5 : i ≤ 5000) (hb : ∀ i, i < z → (S i).1 ≤ 5000 ∧ (S i).2.1 ≤ 5000) (hW : Row h o No m W) (hm : m ≤ 24) (hd : g + 14 ≤ o ∨ o + 2 ≤ g) : qVo l mX4_adds 0 0 [.ref g, vI x, vI q, .ref o] h sz (fun h' sz' => Stg h' g (insS S (pos S x z) (i, k, m, W)) (z + 1) ∧ Fr h h' g (g + 14) ∧ sz' = sz) := by
  obtain ⟨f, σ, a1, a2, a3, a4, a5, a6, a7⟩ := hS
  subst hq
  have hsz := a1 z hz
  obtain ⟨E, e1, e2⟩ := a6 z (by omega)
  have hee := e1.1
  refine qC.of 2 (by decide) (le_b rfl) ?_
  refine qV_aload_n (pc := 0) 0 dX4_adds_0 rfl rfl ?_
  refine qV_aload_n (pc := 1) 0 dX4_adds_1 rfl rfl ?_
  refine qV_get (pc := 2) kX4 1 (le_b rfl) lk_X4_18 rfl dX4_adds_2 (by first | assumption | exact hU_self _ _ _ | (refine (hU_ne (by omega)).trans ?_; first | assumption | exact hU_self _ _ _ | (refine (hU_ne (by omega)).trans ?_; first | assumption | exact hU_self _ _ _ | (refine (hU_ne (by omega)).trans ?_; first | assumption | exact hU_self _ _ _)))) (by exact rfl) ?_
  refine qV_rdV (pc := 5) (c_slot (i := z) a3 a4 rfl hz (a5 z hz)) nX4_slot kX4 lk_X4_22 dX4_adds_5 (by first | assumption | exact hU_self _ _ _ | (refine (hU_ne (by omega)).trans ?_; first | assumption | exact hU_self _ _ _ | (refine (hU_ne (by omega)).trans ?_; first | assumption | exact hU_self _ _ _ | (refine (hU_ne (by omega)).trans ?_; first | assumption | exact hU_self _ _ _)))) ⟨le_b rfl, le_b rfl⟩ ⟨le_b rfl, le_b rfl⟩ rfl (le_b rfl) ?_
  refine qV_astore (pc := 8) 4 dX4_adds_8 (le_b rfl) (le_b rfl) rfl ?_
  refine qV_aload (pc := 10) 4 dX4_adds_10 rfl ?_
  refine qV_ifnonnull (pc := 12) 16 dX4_adds_12 (by decide) ?_
  refine qV_aload (pc := 16) 4 dX4_adds_16 rfl ?_
  refine qV_iload_n (pc := 18) 1 dX4_adds_18 rfl rfl ?_
  refine qV_iload_n (pc := 19) 2 dX4_adds_19 rfl rfl ?_
  refine qV_aload_n (pc := 20) 3 dX4_adds_20 rfl rfl ?_
  refine qV_voV (pc := 21) (c_takesOver (k := k) e1 hx rfl hW hm (by omega)) nX0_takesOver kX0 lk_X4_34 dX4_adds_21 (by first | assumption | exact hU_self _ _ _ | (refine (hU_ne (by omega)).trans ?_; first | assumption | exact hU_self _ _ _ | (refine (hU_ne (by omega)).trans ?_; first | assumption | exact hU_self _ _ _ | (refine (hU_ne (by omega)).trans ?_; first | assumption | exact hU_self _ _ _)))) ⟨le_b rfl, le_b rfl⟩ ⟨le_b rfl, le_b rfl⟩ rfl (le_b rfl) ?_
  rintro h2 _ ⟨t1, f2, rfl⟩
  have b3 := (f2 g (by omega)).trans a3
  have b4 := (f2 (g + 1) (by omega)).trans a4
  refine qV_aload_n (pc := 24) 0 dX4_adds_24 rfl rfl ?_
  refine qV_get (pc := 25) kX4 1 (le_b rfl) lk_X4_18 rfl dX4_adds_25 (by first | assumption | exact hU_self _ _ _ | (refine (hU_ne (by omega)).trans ?_; first | assumption | exact hU_self _ _ _ | (refine (hU_ne (by omega)).trans ?_; first | assumption | exact hU_self _ _ _ | (refine (hU_ne (by omega)).trans ?_; first | assumption | exact hU_self _ _ _)))) (by exact rfl) ?_
  refine qV_istore (pc := 28) 5 dX4_adds_28 (le_b rfl) (le_b rfl) rfl ?_
  refine adds_loop hz hx hi5 hb a1 a2 a5 z _ h2 f (Nat.le_refl z) rfl rfl b3 b4 (fun _ _ => rfl) (fun j hj hj2 => by omega) (fun _ _ _ => rfl) (fun j hj => ?_) t1 (fun j hj hj2 => ?_) (f2.wide (by omega) (by omega))
  · obtain ⟨E', e3, e4⟩ := a6 j (by omega)
    rw [← e4 hj]
    have hne : σ j ≠ σ z := fun e => by have := a2 j z (by omega) hz e; omega
    exact e3.fr f2 (by omega)
  · obtain ⟨E', e3, e4⟩ := a6 j hj2
    have hne : σ j ≠ σ z := fun e => by have := a2 j z (by omega) hz e; omega
    exact ⟨E', e3.fr f2 (by omega)⟩
set_option maxRecDepth 100000 in
set_option maxHeartbeats 4000000 in
theorem change_loop {p n : Nat} {P : PG} (hS : Stg h g S z) (hok : okS S z n) (hn : n ≤ 120) (hd : p + 7 ≤ g ∨ g + 14 ≤ p) : ∀ (c : Nat) (q : Int) (h1 : qH) (P1 : PG) (x3 : Option Value), c ≤ z → q = (c : Int) - 1 → doA S c P1 = doA S z P → Page h1 p 216 P1 → wf 216 P1 → P1.1 ≤ 120 + 24 * (z - c) → (∀ j, j < c → (S j).1 + (S j).2.1 ≤ P1.1) → Fr h h1 p (p + 7) → qVM l mX4_changesAll 0 0 h sz (fun v h' sz' => v = none ∧ Page h' p 216 (doA S z P) ∧ Fr h h' p (p + 7) ∧ sz' = sz) 0 0 h1 sz 7 [some (.ref g), some (.ref p), some (vI q), x3] [] := by
  obtain ⟨f, σ, a1, a2, a3, a4, a5, a6, a7⟩ := hS
  intro c
  induction c with
  | zero =>
    intro q h1 P1 x3 hc hq he hP hw hs hk hf
    refine qV_iload_n (pc := 7) 2 dX4_changesAll_7 rfl rfl ?_
    refine qV_iflt (pc := 8) 43 dX4_changesAll_8 (by decide) ⟨by omega, by omega⟩ (fun c8 => ?_) (fun c8 => ?_)
    · refine qV_vret (pc := 43) dX4_changesAll_43 rfl (le_b rfl) (le_b rfl) ?_
      rw [← he]
      exact ⟨rfl, hP, hf, rfl⟩
    · exfalso; omega
  | succ c ih =>
    intro q h1 P1 x3 hc hq he hP hw hs hk hf
    obtain ⟨E, e1, e2⟩ := a6 c (by omega)
    obtain rfl := e2 (by omega)
    have sc := a1 c (by omega)
    have e1' := e1.fr hf (by omega)
    have ho := e1'.1
    have b3 := (hf g (by omega)).trans a3
    have b4 := (hf (g + 1) (by omega)).trans a4
    have hP1 := hP.1
    have hk1 := hk c (by omega)
    have hm := (hok.1 c (by omega))
    refine qV_iload_n (pc := 7) 2 dX4_changesAll_7 rfl rfl ?_
    refine qV_iflt (pc := 8) 43 dX4_changesAll_8 (by decide) ⟨by omega, by omega⟩ (fun c8 => ?_) (fun c8 => ?_)
    · exfalso; omega
    · refine qV_aload_n (pc := 11) 0 dX4_changesAll_11 rfl rfl ?_
      refine qV_iload_n (pc := 12) 2 dX4_changesAll_12 rfl rfl ?_
      refine qV_rdV (pc := 13) (c_slot (i := c) b3 b4 (by omega) (by omega) (a5 c (by omega))) nX4_slot kX4 lk_X4_22 dX4_changesAll_13 (by first | assumption | exact hU_self _ _ _ | (refine (hU_ne (by omega)).trans ?_; first | assumption | exact hU_self _ _ _ | (refine (hU_ne (by omega)).trans ?_; first | assumption | exact hU_self _ _ _ | (refine (hU_ne (by omega)).trans ?_; first | assumption | exact hU_self _ _ _)))) ⟨le_b rfl, le_b rfl⟩ ⟨le_b rfl, le_b rfl⟩ rfl (le_b rfl) ?_
      refine qV_astore_n (pc := 16) 3 dX4_changesAll_16 rfl (le_b rfl) (le_b rfl) rfl ?_
      refine qV_aload_n (pc := 17) 3 dX4_changesAll_17 rfl rfl ?_
      refine qV_ifnull (pc := 18) dX4_changesAll_18 ?_
      refine qV_aload_n (pc := 21) 1 dX4_changesAll_21 rfl rfl ?_
      refine qV_aload_n (pc := 22) 3 dX4_changesAll_22 rfl rfl ?_
      refine qV_getN (pc := 23) kX0 1 (le_b rfl) lk_X4_45 rfl dX4_changesAll_23 (by first | assumption | exact hU_self _ _ _ | (refine (hU_ne (by omega)).trans ?_; first | assumption | exact hU_self _ _ _ | (refine (hU_ne (by omega)).trans ?_; first | assumption | exact hU_self _ _ _ | (refine (hU_ne (by omega)).trans ?_; first | assumption | exact hU_self _ _ _)))) (by exact rfl) ?_
      refine qV_aload_n (pc := 26) 3 dX4_changesAll_26 rfl rfl ?_
      refine qV_getN (pc := 27) kX0 2 (le_b rfl) lk_X4_48 rfl dX4_changesAll_27 (by first | assumption | exact hU_self _ _ _ | (refine (hU_ne (by omega)).trans ?_; first | assumption | exact hU_self _ _ _ | (refine (hU_ne (by omega)).trans ?_; first | assumption | exact hU_self _ _ _ | (refine (hU_ne (by omega)).trans ?_; first | assumption | exact hU_self _ _ _)))) (by exact rfl) ?_
      refine qV_aload_n (pc := 30) 3 dX4_changesAll_30 rfl rfl ?_
      refine qV_getN (pc := 31) kX0 0 (le_b rfl) lk_X4_51 rfl dX4_changesAll_31 (by first | assumption | exact hU_self _ _ _ | (refine (hU_ne (by omega)).trans ?_; first | assumption | exact hU_self _ _ _ | (refine (hU_ne (by omega)).trans ?_; first | assumption | exact hU_self _ _ _ | (refine (hU_ne (by omega)).trans ?_; first | assumption | exact hU_self _ _ _)))) (by exact rfl) ?_
      refine qV_voV (pc := 34) (c_replaces hP hw rfl rfl hk1 hm.1 (by omega) e1'.2 (by omega)) nX2_replaces kX2 lk_X4_55 dX4_changesAll_34 (by first | assumption | exact hU_self _ _ _ | (refine (hU_ne (by omega)).trans ?_; first | assumption | exact hU_self _ _ _ | (refine (hU_ne (by omega)).trans ?_; first | assumption | exact hU_self _ _ _ | (refine (hU_ne (by omega)).trans ?_; first | assumption | exact hU_self _ _ _)))) ⟨le_b rfl, le_b rfl⟩ ⟨le_b rfl, le_b rfl⟩ rfl (le_b rfl) ?_
      rintro h2 _ ⟨hP2, f2, rfl⟩
      refine qV_iinc (pc := 37) 2 dX4_changesAll_37 rfl (le_b rfl) (le_b rfl) rfl ?_
      refine qV_goto (pc := 40) 7 dX4_changesAll_40 (by decide) ?_
      have hn2 := ed_n (P := P1) (p := (S c).1) (k := (S c).2.1) (m := (S c).2.2.1) (W := (S c).2.2.2)
      refine ih _ h2 _ _ (by omega) (by omega) (by rw [← he]; rfl) hP2 (wf_ed hw hk1 hm.1 hm.2 (by omega)) (by omega) (fun j hj => ?_) (hf.trans f2)
      have := hok.2.1 j c hj (by omega)
      omega
set_option maxRecDepth 100000 in
set_option maxHeartbeats 4000000 in
theorem c_changesAll {p : Nat} {P : PG} (hS : Stg h g S z) (hP : Page h p 216 P) (hw : wf 216 P) (hok : okS S z P.1) (hn : P.1 ≤ 120) (hd : p + 7 ≤ g ∨ g + 14 ≤ p) : qVo l mX4_changesAll 0 0 [.ref g, .ref p] h sz (fun h' sz' => Page h' p 216 (doA S z P) ∧ Fr h h' p (p + 7) ∧ sz' = sz) := by
  obtain ⟨f, σ, a1, a2, a3, a4, a5, a6, a7⟩ := id hS
  refine qC.of 2 (by decide) (le_b rfl) ?_
  refine qV_aload_n (pc := 0) 0 dX4_changesAll_0 rfl rfl ?_
  refine qV_get (pc := 1) kX4 1 (le_b rfl) lk_X4_18 rfl dX4_changesAll_1 (by first | assumption | exact hU_self _ _ _ | (refine (hU_ne (by omega)).trans ?_; first | assumption | exact hU_self _ _ _ | (refine (hU_ne (by omega)).trans ?_; first | assumption | exact hU_self _ _ _ | (refine (hU_ne (by omega)).trans ?_; first | assumption | exact hU_self _ _ _)))) (by exact rfl) ?_
  refine qV_iconst (pc := 4) dX4_changesAll_4 ?_
  refine qV_isub (pc := 5) dX4_changesAll_5 ?_
  refine qV_istore_n (pc := 6) 2 dX4_changesAll_6 rfl (le_b rfl) (le_b rfl) rfl ?_
  exact change_loop hS hok hn hd z _ h P _ (Nat.le_refl z) rfl rfl hP hw (by omega) hok.2.2 Fr.rf
set_option maxRecDepth 100000 in
set_option maxHeartbeats 4000000 in
theorem stg_init_loop : ∀ (m i : Nat) (q : Int) (h1 : qH) (s1 k1 n1 : Nat) (f : Nat → Option Nat), 4 - i = m → i ≤ 4 → q = i → s1 = g + 2 + 3 * i → k1 = 1 + 3 * i → n1 = 4 + 29 * i → h1 g = some (oB 4 [.ref (g + 1), vI 0]) → h1 (g + 1) = some (rA 3 4 f) → (∀ j, j < i → f j = some (g + 2 + 3 * j)) → (∀ j, j < i → Edit h1 (g + 2 + 3 * j) (0, 0, 0, fun _ => 0)) → Fr h h1 g (g + 14) → qVM l mX4_init 13 120 h sz (fun v h' sz' => v = none ∧ Stg h' g S 0 ∧ Fr h h' g (g + 14) ∧ sz' = g + 14) k1 n1 h1 s1 14 [some (.ref g), some (vI q)] [] := by
  intro m
  induction m with
  | zero =>
    intro i q h1 s1 k1 n1 f hm hi hq hs hk hn ho ha f1 f2 hf
    obtain rfl : i = 4 := by omega
    refine qV_iload_n (pc := 14) 1 dX4_init_14 rfl rfl ?_
    refine qV_aload_n (pc := 15) 0 dX4_init_15 rfl rfl ?_
    refine qV_get (pc := 16) kX4 0 (le_b rfl) lk_X4_11 rfl dX4_init_16 (by first | assumption | exact hU_self _ _ _ | (refine (hU_ne (by omega)).trans ?_; first | assumption | exact hU_self _ _ _ | (refine (hU_ne (by omega)).trans ?_; first | assumption | exact hU_self _ _ _ | (refine (hU_ne (by omega)).trans ?_; first | assumption | exact hU_self _ _ _)))) (by exact rfl) ?_
    refine qV_alenR (pc := 19) dX4_init_19 (by first | assumption | exact hU_self _ _ _ | (refine (hU_ne (by omega)).trans ?_; first | assumption | exact hU_self _ _ _ | (refine (hU_ne (by omega)).trans ?_; first | assumption | exact hU_self _ _ _ | (refine (hU_ne (by omega)).trans ?_; first | assumption | exact hU_self _ _ _)))) ?_
    refine qV_icmp_ge (pc := 20) 42 dX4_init_20 (by decide) ⟨by omega, by omega⟩ ⟨by omega, by omega⟩ (fun c20 => ?_) (fun c20 => ?_)
    · refine qV_vret (pc := 42) dX4_init_42 rfl (by omega) (by omega) ?_
      exact ⟨rfl, ⟨f, fun j => j, fun j hj => hj, fun _ _ _ _ e => e, ho, ha, f1, fun j hj => ⟨_, f2 j hj, fun e => by omega⟩, by omega⟩, hf, by omega⟩
    · exfalso; omega
  | succ m ih =>
    intro i q h1 s1 k1 n1 f hm hi hq hs hk hn ho ha f1 f2 hf
    subst hs
    have hi3 : i < 4 := by omega
    refine qV_iload_n (pc := 14) 1 dX4_init_14 rfl rfl ?_
    refine qV_aload_n (pc := 15) 0 dX4_init_15 rfl rfl ?_
    refine qV_get (pc := 16) kX4 0 (le_b rfl) lk_X4_11 rfl dX4_init_16 (by first | assumption | exact hU_self _ _ _ | (refine (hU_ne (by omega)).trans ?_; first | assumption | exact hU_self _ _ _ | (refine (hU_ne (by omega)).trans ?_; first | assumption | exact hU_self _ _ _ | (refine (hU_ne (by omega)).trans ?_; first | assumption | exact hU_self _ _ _)))) (by exact rfl) ?_
    refine qV_alenR (pc := 19) dX4_init_19 (by first | assumption | exact hU_self _ _ _ | (refine (hU_ne (by omega)).trans ?_; first | assumption | exact hU_self _ _ _ | (refine (hU_ne (by omega)).trans ?_; first | assumption | exact hU_self _ _ _ | (refine (hU_ne (by omega)).trans ?_; first | assumption | exact hU_self _ _ _)))) ?_
    refine qV_icmp_ge (pc := 20) 42 dX4_init_20 (by decide) ⟨by omega, by omega⟩ ⟨by omega, by omega⟩ (fun c20 => ?_) (fun c20 => ?_)
    · exfalso; omega
    · refine qV_aload_n (pc := 23) 0 dX4_init_23 rfl rfl ?_
      refine qV_get (pc := 24) kX4 0 (le_b rfl) lk_X4_11 rfl dX4_init_24 (by first | assumption | exact hU_self _ _ _ | (refine (hU_ne (by omega)).trans ?_; first | assumption | exact hU_self _ _ _ | (refine (hU_ne (by omega)).trans ?_; first | assumption | exact hU_self _ _ _ | (refine (hU_ne (by omega)).trans ?_; first | assumption | exact hU_self _ _ _)))) (by exact rfl) ?_
      refine qV_iload_n (pc := 27) 1 dX4_init_27 rfl rfl ?_
      refine qV_new (pc := 28) [.null, vI 0, vI 0] kX0 lk_X4_9 wb_X0 wn_X0 (by intro j hj; rcases (show j = 0 ∨ j = 1 ∨ j = 2 by omega) with rfl | rfl | rfl <;> rfl) dX4_init_28 (by show k1 + 1 ≤ 13; omega) (by show n1 + 3 ≤ 120; omega) ?_
      refine qV_dup (pc := 31) dX4_init_31 rfl ?_
      refine qV_voIN (pc := 32) (c_Edit_init (hU_self _ _ _) rfl) nX0_init lk_X4_17 dX4_init_32 ⟨le_b rfl, le_b rfl⟩ ⟨by show _ ≤ 13; omega, by show _ ≤ 120; omega⟩ rfl (le_b rfl) ?_
      rintro h2 _ ⟨e2, f3, rfl⟩
      have b4 : h2 (g + 1) = some (rA 3 4 f) := (f3 (g + 1) (by omega)).trans ((hU_ne (by omega)).trans ha)
      have b3 : h2 g = some (oB 4 [.ref (g + 1), vI 0]) := (f3 g (by omega)).trans ((hU_ne (by omega)).trans ho)
      refine qV_aast (pc := 35) kX0 rfl dX4_init_35 b4 (e2.1) (by omega) ?_
      rw [show q.toNat = i by omega]
      refine qV_iinc (pc := 36) 1 dX4_init_36 rfl (le_b rfl) (le_b rfl) rfl ?_
      refine qV_goto (pc := 39) 14 dX4_init_39 (by decide) ?_
      have fa : ∀ y : qE, Fr h2 (hU h2 (g + 1) y) (g + 1) (g + 2) := fun y => Fr.hU (by omega) (by omega)
      refine ih (i + 1) _ _ _ _ _ _ (by omega) (by omega) (by omega) (by omega) (by omega) (by omega) ((hU_ne (by omega)).trans b3) (hU_self _ _ _) (fun j hj => ?_) (fun j hj => ?_) (((hf.trans (Fr.hU (by omega) (by omega))).trans (f3.wide (by omega) (by omega))).trans ((fa _).wide (by omega) (by omega)))
      · by_cases e : j = i
        · subst e; rw [va_up_self]
        · rw [va_up_ne _ _ e]; exact f1 j (by omega)
      · by_cases e : j = i
        · subst e; exact e2.fr (fa _) (by omega)
        · exact (((f2 j (by omega)).fr (Fr.hU (lo := g + 2 + 3 * i) (hi := g + 3 + 3 * i) (by omega) (by omega)) (by omega)).fr f3 (by omega)).fr (fa _) (by omega)
set_option maxRecDepth 100000 in
set_option maxHeartbeats 4000000 in
theorem c_Stg_init (h1 : h g = some (oB 4 [.null, vI 0])) (hs : sz = g + 1) : qVo l mX4_init 13 120 [.ref g] h sz (fun h' sz' => Stg h' g S 0 ∧ Fr h h' g (g + 14) ∧ sz' = g + 14) := by
  subst hs
  refine qC.of 1 (by decide) (le_b rfl) ?_
  refine qV_aload_n (pc := 0) 0 dX4_init_0 rfl rfl ?_
  refine qV_objinit (pc := 1) lk_X4_3 dX4_init_1 (le_b rfl) (le_b rfl) ?_
  refine qV_aload_n (pc := 4) 0 dX4_init_4 rfl rfl ?_
  refine qV_iconst (pc := 5) dX4_init_5 ?_
  refine qV_newr (pc := 6) (kd := 3) rfl lk_X4_9 (fun D s hK => hK.2.2.1) dX4_init_6 (by omega) (le_b rfl) (le_b rfl) ?_
  refine qV_putF (pc := 9) kX4 0 (le_b rfl) lk_X4_11 rfl rfl rfl rfl rfl rfl dX4_init_9 (by first | assumption | exact hU_self _ _ _ | (refine (hU_ne (by omega)).trans ?_; first | assumption | exact hU_self _ _ _ | (refine (hU_ne (by omega)).trans ?_; first | assumption | exact hU_self _ _ _ | (refine (hU_ne (by omega)).trans ?_; first | assumption | exact hU_self _ _ _)))) (by exact le_b rfl) ?_
  refine qV_iconst (pc := 12) dX4_init_12 ?_
  refine qV_istore_n (pc := 13) 1 dX4_init_13 rfl (le_b rfl) (le_b rfl) rfl ?_
  exact stg_init_loop 4 0 _ _ _ _ _ _ (by omega) (by omega) rfl rfl rfl rfl (hU_self _ _ _) ((hU_ne (by omega)).trans (hU_self _ _ _)) (fun j hj => by omega) (fun j hj => by omega) ((Fr.hU (lo := g) (hi := g + 14) (by omega) (by omega)).trans (Fr.hU (by omega) (by omega)))
end STAGED
