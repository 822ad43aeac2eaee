/-! ===== Sums ===== -/
abbrev sob (u : Nat) (s : Int) : qE := oB 5 [.ref (u + 1), .ref (u + 3), .ref (u + 5), .ref (u + 7), .ref (u + 9), .ref (u + 11), vI s]
def SumW (h : qH) (u n : Nat) (T : Nat → Int) : Prop := Row h (u + 1) 121 (n + 1) (measM T 0) ∧ Row h (u + 3) 121 (n + 1) (measM T 1) ∧ Row h (u + 5) 121 (n + 1) (measM T 2) ∧ Row h (u + 7) 121 (n + 1) (measM T 3)
theorem SumW.fr {h h' : qH} {u n lo hi : Nat} {T : Nat → Int} (a : SumW h u n T) (b : Fr h h' lo hi) (d : u + 9 ≤ lo ∨ hi ≤ u + 1) : SumW h' u n T := ⟨a.1.fr b (by omega), a.2.1.fr b (by omega), a.2.2.1.fr b (by omega), a.2.2.2.fr b (by omega)⟩
theorem SumW.at {h : qH} {u n : Nat} {T : Nat → Int} (a : SumW h u n T) {w : Nat} (hw : w < 4) : Row h (u + 1 + 2 * w) 121 (n + 1) (measM T w) := by
  rcases (show w = 0 ∨ w = 1 ∨ w = 2 ∨ w = 3 by omega) with rfl | rfl | rfl | rfl
  · exact a.1
  · exact a.2.1
  · exact a.2.2.1
  · exact a.2.2.2
def SumB (h : qH) (u n : Nat) (T : Nat → Int) (s : Int) : Prop := ∃ (m : Nat) (X : Nat → Int), Row h (u + 11) 121 m X ∧ (s = 1 → ∃ xs, srt (lnW T n) (nl T n + 1) xs ∧ m = nl T n + 1 ∧ ∀ j, j < m → X j = ((xs.getD j 0 : Nat) : Int))
def Sums (h : qH) (u n : Nat) (T : Nat → Int) (s : Int) : Prop := h u = some (sob u s) ∧ SumW h u n T ∧ Row h (u + 9) 121 (nl T n + 1) (fun k => ((lbN T n k : Nat) : Int)) ∧ SumB h u n T s ∧ (s = 0 ∨ s = 1) ∧ n ≤ 120
theorem Sums.fr {h h' : qH} {u n lo hi : Nat} {T : Nat → Int} {s : Int} (a : Sums h u n T s) (b : Fr h h' lo hi) (d : u + 13 ≤ lo ∨ hi ≤ u) : Sums h' u n T s := by
  obtain ⟨a1, a2, a3, ⟨m, X, a4, a5⟩, a6⟩ := a
  exact ⟨(b u (by omega)).trans a1, a2.fr b (by omega), a3.fr b (by omega), ⟨m, X, a4.fr b (by omega), a5⟩, a6⟩
section SUMS
variable {l : Launch} {h : qH} {sz u n : Nat} {T : Nat → Int} {s : Int}
set_option maxRecDepth 100000 in
set_option maxHeartbeats 4000000 in
theorem c_addsPlace {a b c d : Int} {m : Nat} {A0 A1 A2 A3 : Nat → Int} (ho : h u = some (sob u s)) (r0 : Row h (u + 1) 121 m A0) (r1 : Row h (u + 3) 121 m A1) (r2 : Row h (u + 5) 121 m A2) (r3 : Row h (u + 7) 121 m A3) (hm : m < 121) : qVo l mX5_addsPlace 0 0 [.ref u, vI a, vI b, vI c, vI d] h sz (fun h' sz' => Row h' (u + 1) 121 (m + 1) (va_up A0 m a) ∧ Row h' (u + 3) 121 (m + 1) (va_up A1 m b) ∧ Row h' (u + 5) 121 (m + 1) (va_up A2 m c) ∧ Row h' (u + 7) 121 (m + 1) (va_up A3 m d) ∧ Fr h h' (u + 1) (u + 9) ∧ sz' = sz) := by
  refine qC.of 0 (by decide) (le_b rfl) ?_
  refine qV_aload_n (pc := 0) 0 dX5_addsPlace_0 rfl rfl ?_
  refine qV_get (pc := 1) kX5 0 (le_b rfl) lk_X5_14 rfl dX5_addsPlace_1 (by first | assumption | exact hU_self _ _ _ | (refine (hU_ne (by omega)).trans ?_; first | assumption | exact hU_self _ _ _ | (refine (hU_ne (by omega)).trans ?_; first | assumption | exact hU_self _ _ _ | (refine (hU_ne (by omega)).trans ?_; first | assumption | exact hU_self _ _ _)))) (by exact rfl) ?_
  refine qV_iload_n (pc := 4) 1 dX5_addsPlace_4 rfl rfl ?_
  refine qV_voV (pc := 5) (c_add r0 hm) nX3_add kX3 lk_X5_45 dX5_addsPlace_5 r0.obj ⟨le_b rfl, le_b rfl⟩ ⟨le_b rfl, le_b rfl⟩ rfl (le_b rfl) ?_
  rintro h1 _ ⟨q0, f1, rfl⟩
  have ho := (f1 u (by omega)).trans ho
  have r1 := r1.fr f1 (by omega)
  have r2 := r2.fr f1 (by omega)
  have r3 := r3.fr f1 (by omega)
  refine qV_aload_n (pc := 8) 0 dX5_addsPlace_8 rfl rfl ?_
  refine qV_get (pc := 9) kX5 1 (le_b rfl) lk_X5_20 rfl dX5_addsPlace_9 (by first | assumption | exact hU_self _ _ _ | (refine (hU_ne (by omega)).trans ?_; first | assumption | exact hU_self _ _ _ | (refine (hU_ne (by omega)).trans ?_; first | assumption | exact hU_self _ _ _ | (refine (hU_ne (by omega)).trans ?_; first | assumption | exact hU_self _ _ _)))) (by exact rfl) ?_
  refine qV_iload_n (pc := 12) 2 dX5_addsPlace_12 rfl rfl ?_
  refine qV_voV (pc := 13) (c_add r1 hm) nX3_add kX3 lk_X5_45 dX5_addsPlace_13 r1.obj ⟨le_b rfl, le_b rfl⟩ ⟨le_b rfl, le_b rfl⟩ rfl (le_b rfl) ?_
  rintro h2 _ ⟨q1, f2, rfl⟩
  have ho := (f2 u (by omega)).trans ho
  have q0 := q0.fr f2 (by omega)
  have r2 := r2.fr f2 (by omega)
  have r3 := r3.fr f2 (by omega)
  refine qV_aload_n (pc := 16) 0 dX5_addsPlace_16 rfl rfl ?_
  refine qV_get (pc := 17) kX5 2 (le_b rfl) lk_X5_23 rfl dX5_addsPlace_17 (by first | assumption | exact hU_self _ _ _ | (refine (hU_ne (by omega)).trans ?_; first | assumption | exact hU_self _ _ _ | (refine (hU_ne (by omega)).trans ?_; first | assumption | exact hU_self _ _ _ | (refine (hU_ne (by omega)).trans ?_; first | assumption | exact hU_self _ _ _)))) (by exact rfl) ?_
  refine qV_iload_n (pc := 20) 3 dX5_addsPlace_20 rfl rfl ?_
  refine qV_voV (pc := 21) (c_add r2 hm) nX3_add kX3 lk_X5_45 dX5_addsPlace_21 r2.obj ⟨le_b rfl, le_b rfl⟩ ⟨le_b rfl, le_b rfl⟩ rfl (le_b rfl) ?_
  rintro h3 _ ⟨q2, f3, rfl⟩
  have ho := (f3 u (by omega)).trans ho
  have q0 := q0.fr f3 (by omega)
  have q1 := q1.fr f3 (by omega)
  have r3 := r3.fr f3 (by omega)
  refine qV_aload_n (pc := 24) 0 dX5_addsPlace_24 rfl rfl ?_
  refine qV_get (pc := 25) kX5 3 (le_b rfl) lk_X5_26 rfl dX5_addsPlace_25 (by first | assumption | exact hU_self _ _ _ | (refine (hU_ne (by omega)).trans ?_; first | assumption | exact hU_self _ _ _ | (refine (hU_ne (by omega)).trans ?_; first | assumption | exact hU_self _ _ _ | (refine (hU_ne (by omega)).trans ?_; first | assumption | exact hU_self _ _ _)))) (by exact rfl) ?_
  refine qV_iload (pc := 28) 4 dX5_addsPlace_28 rfl ?_
  refine qV_voV (pc := 30) (c_add r3 hm) nX3_add kX3 lk_X5_45 dX5_addsPlace_30 r3.obj ⟨le_b rfl, le_b rfl⟩ ⟨le_b rfl, le_b rfl⟩ rfl (le_b rfl) ?_
  rintro h4 _ ⟨q3, f4, rfl⟩
  have q0 := q0.fr f4 (by omega)
  have q1 := q1.fr f4 (by omega)
  have q2 := q2.fr f4 (by omega)
  refine qV_vret (pc := 33) dX5_addsPlace_33 rfl (le_b rfl) (le_b rfl) ?_
  exact ⟨rfl, q0, q1, q2, q3, ((((f1.wide (by omega) (by omega)).trans (f2.wide (by omega) (by omega))).trans (f3.wide (by omega) (by omega))).trans (f4.wide (by omega) (by omega))), rfl⟩
set_option maxRecDepth 100000 in
set_option maxHeartbeats 4000000 in
theorem c_startsOver {n0 n1 n2 n3 n4 n5 : Nat} {A0 A1 A2 A3 A4 A5 : Nat → Int} (ho : h u = some (sob u s)) (r0 : Row h (u + 1) 121 n0 A0) (r1 : Row h (u + 3) 121 n1 A1) (r2 : Row h (u + 5) 121 n2 A2) (r3 : Row h (u + 7) 121 n3 A3) (r4 : Row h (u + 9) 121 n4 A4) (r5 : Row h (u + 11) 121 n5 A5) (T : Nat → Int) : qVo l mX5_startsOver 0 0 [.ref u] h sz (fun h' sz' => Sums h' u 0 T 0 ∧ Fr h h' u (u + 13) ∧ sz' = sz) := by
  refine qC.of 0 (by decide) (le_b rfl) ?_
  refine qV_aload_n (pc := 0) 0 dX5_startsOver_0 rfl rfl ?_
  refine qV_get (pc := 1) kX5 0 (le_b rfl) lk_X5_14 rfl dX5_startsOver_1 (by first | assumption | exact hU_self _ _ _ | (refine (hU_ne (by omega)).trans ?_; first | assumption | exact hU_self _ _ _ | (refine (hU_ne (by omega)).trans ?_; first | assumption | exact hU_self _ _ _ | (refine (hU_ne (by omega)).trans ?_; first | assumption | exact hU_self _ _ _)))) (by exact rfl) ?_
  refine qV_voV (pc := 4) (c_empties (fun _ => 0) r0) nX3_empties kX3 lk_X5_38 dX5_startsOver_4 r0.obj ⟨le_b rfl, le_b rfl⟩ ⟨le_b rfl, le_b rfl⟩ rfl (le_b rfl) ?_
  rintro h1 _ ⟨q0, f1, rfl⟩
  have ho := (f1 u (by omega)).trans ho
  have r1 := r1.fr f1 (by omega)
  have r2 := r2.fr f1 (by omega)
  have r3 := r3.fr f1 (by omega)
  have r4 := r4.fr f1 (by omega)
  have r5 := r5.fr f1 (by omega)
  refine qV_aload_n (pc := 7) 0 dX5_startsOver_7 rfl rfl ?_
  refine qV_get (pc := 8) kX5 1 (le_b rfl) lk_X5_20 rfl dX5_startsOver_8 (by first | assumption | exact hU_self _ _ _ | (refine (hU_ne (by omega)).trans ?_; first | assumption | exact hU_self _ _ _ | (refine (hU_ne (by omega)).trans ?_; first | assumption | exact hU_self _ _ _ | (refine (hU_ne (by omega)).trans ?_; first | assumption | exact hU_self _ _ _)))) (by exact rfl) ?_
  refine qV_voV (pc := 11) (c_empties (fun _ => 0) r1) nX3_empties kX3 lk_X5_38 dX5_startsOver_11 r1.obj ⟨le_b rfl, le_b rfl⟩ ⟨le_b rfl, le_b rfl⟩ rfl (le_b rfl) ?_
  rintro h2 _ ⟨q1, f2, rfl⟩
  have ho := (f2 u (by omega)).trans ho
  have r2 := r2.fr f2 (by omega)
  have r3 := r3.fr f2 (by omega)
  have r4 := r4.fr f2 (by omega)
  have r5 := r5.fr f2 (by omega)
  have q0 := q0.fr f2 (by omega)
  refine qV_aload_n (pc := 14) 0 dX5_startsOver_14 rfl rfl ?_
  refine qV_get (pc := 15) kX5 2 (le_b rfl) lk_X5_23 rfl dX5_startsOver_15 (by first | assumption | exact hU_self _ _ _ | (refine (hU_ne (by omega)).trans ?_; first | assumption | exact hU_self _ _ _ | (refine (hU_ne (by omega)).trans ?_; first | assumption | exact hU_self _ _ _ | (refine (hU_ne (by omega)).trans ?_; first | assumption | exact hU_self _ _ _)))) (by exact rfl) ?_
  refine qV_voV (pc := 18) (c_empties (fun _ => 0) r2) nX3_empties kX3 lk_X5_38 dX5_startsOver_18 r2.obj ⟨le_b rfl, le_b rfl⟩ ⟨le_b rfl, le_b rfl⟩ rfl (le_b rfl) ?_
  rintro h3 _ ⟨q2, f3, rfl⟩
  have ho := (f3 u (by omega)).trans ho
  have r3 := r3.fr f3 (by omega)
  have r4 := r4.fr f3 (by omega)
  have r5 := r5.fr f3 (by omega)
  have q0 := q0.fr f3 (by omega)
  have q1 := q1.fr f3 (by omega)
  refine qV_aload_n (pc := 21) 0 dX5_startsOver_21 rfl rfl ?_
  refine qV_get (pc := 22) kX5 3 (le_b rfl) lk_X5_26 rfl dX5_startsOver_22 (by first | assumption | exact hU_self _ _ _ | (refine (hU_ne (by omega)).trans ?_; first | assumption | exact hU_self _ _ _ | (refine (hU_ne (by omega)).trans ?_; first | assumption | exact hU_self _ _ _ | (refine (hU_ne (by omega)).trans ?_; first | assumption | exact hU_self _ _ _)))) (by exact rfl) ?_
  refine qV_voV (pc := 25) (c_empties (fun _ => 0) r3) nX3_empties kX3 lk_X5_38 dX5_startsOver_25 r3.obj ⟨le_b rfl, le_b rfl⟩ ⟨le_b rfl, le_b rfl⟩ rfl (le_b rfl) ?_
  rintro h4 _ ⟨q3, f4, rfl⟩
  have ho := (f4 u (by omega)).trans ho
  have r4 := r4.fr f4 (by omega)
  have r5 := r5.fr f4 (by omega)
  have q0 := q0.fr f4 (by omega)
  have q1 := q1.fr f4 (by omega)
  have q2 := q2.fr f4 (by omega)
  refine qV_aload_n (pc := 28) 0 dX5_startsOver_28 rfl rfl ?_
  refine qV_iconst (pc := 29) dX5_startsOver_29 ?_
  refine qV_iconst (pc := 30) dX5_startsOver_30 ?_
  refine qV_iconst (pc := 31) dX5_startsOver_31 ?_
  refine qV_iconst (pc := 32) dX5_startsOver_32 ?_
  refine qV_voV (pc := 33) (c_addsPlace ho q0 q1 q2 q3 (by omega)) nX5_addsPlace kX5 lk_X5_41 dX5_startsOver_33 (by first | assumption | exact hU_self _ _ _ | (refine (hU_ne (by omega)).trans ?_; first | assumption | exact hU_self _ _ _ | (refine (hU_ne (by omega)).trans ?_; first | assumption | exact hU_self _ _ _ | (refine (hU_ne (by omega)).trans ?_; first | assumption | exact hU_self _ _ _)))) ⟨le_b rfl, le_b rfl⟩ ⟨le_b rfl, le_b rfl⟩ rfl (le_b rfl) ?_
  rintro h5 _ ⟨q0, q1, q2, q3, f5, rfl⟩
  have ho := (f5 u (by omega)).trans ho
  have r4 := r4.fr f5 (by omega)
  have r5 := r5.fr f5 (by omega)
  refine qV_aload_n (pc := 36) 0 dX5_startsOver_36 rfl rfl ?_
  refine qV_get (pc := 37) kX5 4 (le_b rfl) lk_X5_29 rfl dX5_startsOver_37 (by first | assumption | exact hU_self _ _ _ | (refine (hU_ne (by omega)).trans ?_; first | assumption | exact hU_self _ _ _ | (refine (hU_ne (by omega)).trans ?_; first | assumption | exact hU_self _ _ _ | (refine (hU_ne (by omega)).trans ?_; first | assumption | exact hU_self _ _ _)))) (by exact rfl) ?_
  refine qV_voV (pc := 40) (c_empties (fun _ => 0) r4) nX3_empties kX3 lk_X5_38 dX5_startsOver_40 r4.obj ⟨le_b rfl, le_b rfl⟩ ⟨le_b rfl, le_b rfl⟩ rfl (le_b rfl) ?_
  rintro h6 _ ⟨q4, f6, rfl⟩
  have ho := (f6 u (by omega)).trans ho
  have r5 := r5.fr f6 (by omega)
  have q0 := q0.fr f6 (by omega)
  have q1 := q1.fr f6 (by omega)
  have q2 := q2.fr f6 (by omega)
  have q3 := q3.fr f6 (by omega)
  refine qV_aload_n (pc := 43) 0 dX5_startsOver_43 rfl rfl ?_
  refine qV_get (pc := 44) kX5 4 (le_b rfl) lk_X5_29 rfl dX5_startsOver_44 (by first | assumption | exact hU_self _ _ _ | (refine (hU_ne (by omega)).trans ?_; first | assumption | exact hU_self _ _ _ | (refine (hU_ne (by omega)).trans ?_; first | assumption | exact hU_self _ _ _ | (refine (hU_ne (by omega)).trans ?_; first | assumption | exact hU_self _ _ _)))) (by exact rfl) ?_
  refine qV_iconst (pc := 47) dX5_startsOver_47 ?_
  refine qV_voV (pc := 48) (c_add q4 (by omega)) nX3_add kX3 lk_X5_45 dX5_startsOver_48 q4.obj ⟨le_b rfl, le_b rfl⟩ ⟨le_b rfl, le_b rfl⟩ rfl (le_b rfl) ?_
  rintro h7 _ ⟨q4, f7, rfl⟩
  have ho := (f7 u (by omega)).trans ho
  have q0 := q0.fr f7 (by omega)
  have q1 := q1.fr f7 (by omega)
  have q2 := q2.fr f7 (by omega)
  have q3 := q3.fr f7 (by omega)
  have r5 := r5.fr f7 (by omega)
  refine qV_aload_n (pc := 51) 0 dX5_startsOver_51 rfl rfl ?_
  refine qV_iconst (pc := 52) dX5_startsOver_52 ?_
  refine qV_put (pc := 53) kX5 6 (le_b rfl) lk_X5_48 rfl rfl rfl rfl dX5_startsOver_53 (by first | assumption | exact hU_self _ _ _ | (refine (hU_ne (by omega)).trans ?_; first | assumption | exact hU_self _ _ _ | (refine (hU_ne (by omega)).trans ?_; first | assumption | exact hU_self _ _ _ | (refine (hU_ne (by omega)).trans ?_; first | assumption | exact hU_self _ _ _)))) (by exact le_b rfl) ?_
  refine qV_vret (pc := 56) dX5_startsOver_56 rfl (le_b rfl) (le_b rfl) ?_
  have f8 : Fr h7 (hU h7 u (sob u 0)) u (u + 1) := Fr.hU (by omega) (by omega)
  have e : ∀ (w : Nat) (j : Nat), j < 0 + 1 → va_up (fun _ => (0 : Int)) 0 0 j = measM T w j := fun w j hj => by
    obtain rfl : j = 0 := by omega
    rw [va_up_self]; rfl
  exact ⟨rfl, ⟨hU_self _ _ _, ⟨(q0.fr f8 (by omega)).congr (e 0), (q1.fr f8 (by omega)).congr (e 1), (q2.fr f8 (by omega)).congr (e 2), (q3.fr f8 (by omega)).congr (e 3)⟩, (q4.fr f8 (by omega)).congr (fun j hj => by
    obtain rfl : j = 0 := by omega
    rw [va_up_self]; rfl), ⟨_, _, r5.fr f8 (by omega), fun q => by omega⟩, Or.inl rfl, by omega⟩, ((((((((f1.wide (by omega) (by omega)).trans (f2.wide (by omega) (by omega))).trans (f3.wide (by omega) (by omega))).trans (f4.wide (by omega) (by omega))).trans (f5.wide (by omega) (by omega))).trans (f6.wide (by omega) (by omega))).trans (f7.wide (by omega) (by omega))).trans (f8.wide (by omega) (by omega))), rfl⟩
set_option maxRecDepth 100000 in
set_option maxHeartbeats 4000000 in
theorem meas_add {i : Nat} {q : Int} {h1 : qH} {No o : Nat} {x5 : Int} (hn : n ≤ 120) (hi : i < n) (hq : q = i) (hd : u + 13 ≤ o ∨ o + 2 ≤ u)
    (ho : h1 u = some (sob u 0)) (hw : SumW h1 u i T) (hb : Row h1 (u + 9) 121 (nl T (i + 1) + 1) (fun k => ((lbN T (i + 1) k : Nat) : Int))) (hx : SumB h1 u i T 0) (hr : Row h1 o No n T) (hf : Fr h h1 u (u + 13))
    (ih : ∀ h2, Sums h2 u (i + 1) T 0 → Row h2 o No n T → Fr h h2 u (u + 13) → qVM l mX5_measures 0 0 h sz (fun v h' sz' => v = none ∧ Sums h' u n T 0 ∧ Fr h h' u (u + 13) ∧ sz' = sz) 0 0 h2 sz 11 [some (.ref u), some (.ref o), some (vI (measM T 1 (i + 1))), some (vI (measM T 3 (i + 1))), some (vI (q + 1)), some (vI x5)] []) : qVM l mX5_measures 0 0 h sz (fun v h' sz' => v = none ∧ Sums h' u n T 0 ∧ Fr h h' u (u + 13) ∧ sz' = sz) 0 0 h1 sz 70 [some (.ref u), some (.ref o), some (vI (measM T 1 (i + 1))), some (vI (measM T 3 (i + 1))), some (vI q), some (vI x5)] [] := by
  have hle := hb.le
  obtain ⟨w0, w1, w2, w3⟩ := hw
  refine qV_aload_n (pc := 70) 0 dX5_measures_70 rfl rfl ?_
  refine qV_iload (pc := 71) 4 dX5_measures_71 rfl ?_
  refine qV_iconst (pc := 73) dX5_measures_73 ?_
  refine qV_iadd (pc := 74) dX5_measures_74 ?_
  refine qV_iload_n (pc := 75) 2 dX5_measures_75 rfl rfl ?_
  refine qV_aload_n (pc := 76) 0 dX5_measures_76 rfl rfl ?_
  refine qV_get (pc := 77) kX5 4 (le_b rfl) lk_X5_29 rfl dX5_measures_77 (by first | assumption | exact hU_self _ _ _ | (refine (hU_ne (by omega)).trans ?_; first | assumption | exact hU_self _ _ _ | (refine (hU_ne (by omega)).trans ?_; first | assumption | exact hU_self _ _ _ | (refine (hU_ne (by omega)).trans ?_; first | assumption | exact hU_self _ _ _)))) (by exact rfl) ?_
  refine qV_rdV (pc := 80) (c_size hb) nX3_size kX3 lk_X5_52 dX5_measures_80 hb.obj ⟨le_b rfl, le_b rfl⟩ ⟨le_b rfl, le_b rfl⟩ rfl (le_b rfl) ?_
  refine qV_iconst (pc := 83) dX5_measures_83 ?_
  refine qV_isub (pc := 84) dX5_measures_84 ?_
  refine qV_iload_n (pc := 85) 3 dX5_measures_85 rfl rfl ?_
  refine qV_voV (pc := 86) (c_addsPlace ho w0 w1 w2 w3 (by omega)) nX5_addsPlace kX5 lk_X5_41 dX5_measures_86 (by first | assumption | exact hU_self _ _ _ | (refine (hU_ne (by omega)).trans ?_; first | assumption | exact hU_self _ _ _ | (refine (hU_ne (by omega)).trans ?_; first | assumption | exact hU_self _ _ _ | (refine (hU_ne (by omega)).trans ?_; first | assumption | exact hU_self _ _ _)))) ⟨le_b rfl, le_b rfl⟩ ⟨le_b rfl, le_b rfl⟩ rfl (le_b rfl) ?_
  rintro h2 _ ⟨q0, q1, q2, q3, f2, rfl⟩
  refine qV_iinc (pc := 89) 4 dX5_measures_89 rfl (le_b rfl) (le_b rfl) rfl ?_
  refine qV_goto (pc := 92) 11 dX5_measures_92 (by decide) ?_
  obtain ⟨m, X, b1, b2⟩ := hx
  have e : ∀ (w : Nat) (v : Int), v = measM T w (i + 1) → ∀ j, j < i + 1 + 1 → va_up (measM T w) (i + 1) v j = measM T w j := fun w v hv j hj => by
    by_cases e : j = i + 1
    · subst e; rw [va_up_self]; exact hv
    · rw [va_up_ne _ _ e]
  exact ih h2 ⟨(f2 u (by omega)).trans ho, ⟨q0.congr (e 0 _ (by rw [measM_0]; omega)), q1.congr (e 1 _ rfl), q2.congr (e 2 _ (by rw [nl_meas]; omega)), q3.congr (e 3 _ rfl)⟩, hb.fr f2 (by omega), ⟨m, X, b1.fr f2 (by omega), fun z => by omega⟩, Or.inl rfl, by omega⟩ (hr.fr f2 (by omega)) (hf.trans (f2.wide (by omega) (by omega)))
set_option maxRecDepth 100000 in
set_option maxHeartbeats 4000000 in
theorem meas_loop {No o : Nat} (hn : n ≤ 120) (hT : ∀ j, j < n → 0 ≤ T j ∧ T j ≤ 255) (hd : u + 13 ≤ o ∨ o + 2 ≤ u) : ∀ (m i : Nat) (q : Int) (h1 : qH) (x5 : Option Value), n - i = m → i ≤ n → q = i → Sums h1 u i T 0 → Row h1 o No n T → Fr h h1 u (u + 13) → qVM l mX5_measures 0 0 h sz (fun v h' sz' => v = none ∧ Sums h' u n T 0 ∧ Fr h h' u (u + 13) ∧ sz' = sz) 0 0 h1 sz 11 [some (.ref u), some (.ref o), some (vI (measM T 1 i)), some (vI (measM T 3 i)), some (vI q), x5] [] := by
  intro m
  induction m with
  | zero =>
    intro i q h1 x5 hm hi hq hs hr hf
    obtain rfl : i = n := by omega
    have hle := hr.le
    refine qV_iload (pc := 11) 4 dX5_measures_11 rfl ?_
    refine qV_aload_n (pc := 13) 1 dX5_measures_13 rfl rfl ?_
    refine qV_rdV (pc := 14) (c_size hr) nX3_size kX3 lk_X5_52 dX5_measures_14 hr.obj ⟨le_b rfl, le_b rfl⟩ ⟨le_b rfl, le_b rfl⟩ rfl (le_b rfl) ?_
    refine qV_icmp_ge (pc := 17) 95 dX5_measures_17 (by decide) ⟨by omega, by omega⟩ ⟨by omega, by omega⟩ (fun c17 => ?_) (fun c17 => ?_)
    · refine qV_vret (pc := 95) dX5_measures_95 rfl (le_b rfl) (le_b rfl) ?_
      exact ⟨rfl, hs, hf, rfl⟩
    · exfalso; omega
  | succ m ih =>
    intro i q h1 x5 hm hi hq hs hr hf
    have hle := hr.le
    have t := hT i (by omega)
    obtain ⟨ho, hw, hb, hx, -, -⟩ := hs
    have hln := hb.le
    have e1 : ∀ v : Int, v = hasM (T i) 1 → measM T 1 i + v = measM T 1 (i + 1) := fun v hv => by rw [hv]; rfl
    have e3 : measM T 3 i + hasM (T i) 3 = measM T 3 (i + 1) := rfl
    have hnl := nl_le T i
    refine qV_iload (pc := 11) 4 dX5_measures_11 rfl ?_
    refine qV_aload_n (pc := 13) 1 dX5_measures_13 rfl rfl ?_
    refine qV_rdV (pc := 14) (c_size hr) nX3_size kX3 lk_X5_52 dX5_measures_14 hr.obj ⟨le_b rfl, le_b rfl⟩ ⟨le_b rfl, le_b rfl⟩ rfl (le_b rfl) ?_
    refine qV_icmp_ge (pc := 17) 95 dX5_measures_17 (by decide) ⟨by omega, by omega⟩ ⟨by omega, by omega⟩ (fun c17 => ?_) (fun c17 => ?_)
    · exfalso; omega
    · refine qV_aload_n (pc := 20) 1 dX5_measures_20 rfl rfl ?_
      refine qV_iload (pc := 21) 4 dX5_measures_21 rfl ?_
      refine qV_rdV (pc := 23) (c_gt hr hq (by omega)) nX3_get kX3 lk_X5_56 dX5_measures_23 hr.obj ⟨le_b rfl, le_b rfl⟩ ⟨le_b rfl, le_b rfl⟩ rfl (le_b rfl) ?_
      refine qV_istore (pc := 26) 5 dX5_measures_26 (le_b rfl) (le_b rfl) rfl ?_
      refine qV_iload_n (pc := 28) 2 dX5_measures_28 rfl rfl ?_
      refine qV_iload (pc := 29) 5 dX5_measures_29 rfl ?_
      refine qV_rdSN (pc := 31) (c_beginsLetter ⟨by omega, by omega⟩) nX6_beginsLetter lk_X5_60 dX5_measures_31 ⟨le_b rfl, le_b rfl⟩ ⟨le_b rfl, le_b rfl⟩ rfl (le_b rfl) ?_
      refine qV_ifeqB (pc := 34) 41 dX5_measures_34 (by decide) (fun c34 => ?_) (fun c34 => ?_)
      · refine qV_iconst (pc := 41) dX5_measures_41 ?_
        refine qV_iadd (pc := 42) dX5_measures_42 ?_
        first | rw [e1 1 (by simp [hasM, c34])] | rw [e1 0 (by simp [hasM, c34])]
        refine qV_istore_n (pc := 43) 2 dX5_measures_43 rfl (le_b rfl) (le_b rfl) rfl ?_
        refine qV_iload_n (pc := 44) 3 dX5_measures_44 rfl rfl ?_
        refine qV_iload (pc := 45) 5 dX5_measures_45 rfl ?_
        refine qV_rdSN (pc := 47) (c_cellsOf ⟨by omega, by omega⟩) nX6_cellsOf lk_X5_64 dX5_measures_47 ⟨le_b rfl, le_b rfl⟩ ⟨le_b rfl, le_b rfl⟩ rfl (le_b rfl) ?_
        refine qV_iadd (pc := 50) dX5_measures_50 ?_
        rw [e3]
        refine qV_istore_n (pc := 51) 3 dX5_measures_51 rfl (le_b rfl) (le_b rfl) rfl ?_
        refine qV_iload (pc := 52) 5 dX5_measures_52 rfl ?_
        refine qV_bipush (pc := 54) dX5_measures_54 rfl ?_
        refine qV_icmp_ne (pc := 56) 70 dX5_measures_56 (by decide) ⟨by omega, by omega⟩ ⟨by omega, by omega⟩ (fun c56 => ?_) (fun c56 => ?_)
        · first
          | (obtain ⟨k, X, b1, b2⟩ := hx
             refine meas_add hn (by omega) hq hd ((f2 u (by omega)).trans ho) (hw.fr f2 (by omega)) ?_ ⟨k, X, b1.fr f2 (by omega), b2⟩ (hr.fr f2 (by omega)) (hf.trans (f2.wide (by omega) (by omega))) (fun h3 s3 r3 f3 => ih (i + 1) _ h3 _ (by omega) (by omega) (by omega) s3 r3 f3)
             simp only [nl, lbN, if_pos c56]
             exact hb2.congr (fun j hj => by
               by_cases e : j = nl T i + 1
               · subst e; rw [va_up_self, va_up_self, hq]; rfl
               · rw [va_up_ne _ _ e, va_up_ne _ _ e]))
          | (refine meas_add hn (by omega) hq hd ho hw ?_ hx hr hf (fun h3 s3 r3 f3 => ih (i + 1) _ h3 _ (by omega) (by omega) (by omega) s3 r3 f3)
             simp only [nl, lbN, if_neg c56]
             exact hb)
        · refine qV_aload_n (pc := 59) 0 dX5_measures_59 rfl rfl ?_
          refine qV_get (pc := 60) kX5 4 (le_b rfl) lk_X5_29 rfl dX5_measures_60 (by first | assumption | exact hU_self _ _ _ | (refine (hU_ne (by omega)).trans ?_; first | assumption | exact hU_self _ _ _ | (refine (hU_ne (by omega)).trans ?_; first | assumption | exact hU_self _ _ _ | (refine (hU_ne (by omega)).trans ?_; first | assumption | exact hU_self _ _ _)))) (by exact rfl) ?_
          refine qV_iload (pc := 63) 4 dX5_measures_63 rfl ?_
          refine qV_iconst (pc := 65) dX5_measures_65 ?_
          refine qV_iadd (pc := 66) dX5_measures_66 ?_
          refine qV_voV (pc := 67) (c_add hb (by omega)) nX3_add kX3 lk_X5_45 dX5_measures_67 hb.obj ⟨le_b rfl, le_b rfl⟩ ⟨le_b rfl, le_b rfl⟩ rfl (le_b rfl) ?_
          rintro h2 _ ⟨hb2, f2, rfl⟩
          first
          | (obtain ⟨k, X, b1, b2⟩ := hx
             refine meas_add hn (by omega) hq hd ((f2 u (by omega)).trans ho) (hw.fr f2 (by omega)) ?_ ⟨k, X, b1.fr f2 (by omega), b2⟩ (hr.fr f2 (by omega)) (hf.trans (f2.wide (by omega) (by omega))) (fun h3 s3 r3 f3 => ih (i + 1) _ h3 _ (by omega) (by omega) (by omega) s3 r3 f3)
             simp only [nl, lbN, if_pos c56]
             exact hb2.congr (fun j hj => by
               by_cases e : j = nl T i + 1
               · subst e; rw [va_up_self, va_up_self, hq]; rfl
               · rw [va_up_ne _ _ e, va_up_ne _ _ e]))
          | (refine meas_add hn (by omega) hq hd ho hw ?_ hx hr hf (fun h3 s3 r3 f3 => ih (i + 1) _ h3 _ (by omega) (by omega) (by omega) s3 r3 f3)
             simp only [nl, lbN, if_neg c56]
             exact hb)
      · refine qV_iconst (pc := 37) dX5_measures_37 ?_
        refine qV_goto (pc := 38) 42 dX5_measures_38 (by decide) ?_
        refine qV_iadd (pc := 42) dX5_measures_42 ?_
        first | rw [e1 1 (by simp [hasM, c34])] | rw [e1 0 (by simp [hasM, c34])]
        refine qV_istore_n (pc := 43) 2 dX5_measures_43 rfl (le_b rfl) (le_b rfl) rfl ?_
        refine qV_iload_n (pc := 44) 3 dX5_measures_44 rfl rfl ?_
        refine qV_iload (pc := 45) 5 dX5_measures_45 rfl ?_
        refine qV_rdSN (pc := 47) (c_cellsOf ⟨by omega, by omega⟩) nX6_cellsOf lk_X5_64 dX5_measures_47 ⟨le_b rfl, le_b rfl⟩ ⟨le_b rfl, le_b rfl⟩ rfl (le_b rfl) ?_
        refine qV_iadd (pc := 50) dX5_measures_50 ?_
        rw [e3]
        refine qV_istore_n (pc := 51) 3 dX5_measures_51 rfl (le_b rfl) (le_b rfl) rfl ?_
        refine qV_iload (pc := 52) 5 dX5_measures_52 rfl ?_
        refine qV_bipush (pc := 54) dX5_measures_54 rfl ?_
        refine qV_icmp_ne (pc := 56) 70 dX5_measures_56 (by decide) ⟨by omega, by omega⟩ ⟨by omega, by omega⟩ (fun c56 => ?_) (fun c56 => ?_)
        · first
          | (obtain ⟨k, X, b1, b2⟩ := hx
             refine meas_add hn (by omega) hq hd ((f2 u (by omega)).trans ho) (hw.fr f2 (by omega)) ?_ ⟨k, X, b1.fr f2 (by omega), b2⟩ (hr.fr f2 (by omega)) (hf.trans (f2.wide (by omega) (by omega))) (fun h3 s3 r3 f3 => ih (i + 1) _ h3 _ (by omega) (by omega) (by omega) s3 r3 f3)
             simp only [nl, lbN, if_pos c56]
             exact hb2.congr (fun j hj => by
               by_cases e : j = nl T i + 1
               · subst e; rw [va_up_self, va_up_self, hq]; rfl
               · rw [va_up_ne _ _ e, va_up_ne _ _ e]))
          | (refine meas_add hn (by omega) hq hd ho hw ?_ hx hr hf (fun h3 s3 r3 f3 => ih (i + 1) _ h3 _ (by omega) (by omega) (by omega) s3 r3 f3)
             simp only [nl, lbN, if_neg c56]
             exact hb)
        · refine qV_aload_n (pc := 59) 0 dX5_measures_59 rfl rfl ?_
          refine qV_get (pc := 60) kX5 4 (le_b rfl) lk_X5_29 rfl dX5_measures_60 (by first | assumption | exact hU_self _ _ _ | (refine (hU_ne (by omega)).trans ?_; first | assumption | exact hU_self _ _ _ | (refine (hU_ne (by omega)).trans ?_; first | assumption | exact hU_self _ _ _ | (refine (hU_ne (by omega)).trans ?_; first | assumption | exact hU_self _ _ _)))) (by exact rfl) ?_
          refine qV_iload (pc := 63) 4 dX5_measures_63 rfl ?_
          refine qV_iconst (pc := 65) dX5_measures_65 ?_
          refine qV_iadd (pc := 66) dX5_measures_66 ?_
          refine qV_voV (pc := 67) (c_add hb (by omega)) nX3_add kX3 lk_X5_45 dX5_measures_67 hb.obj ⟨le_b rfl, le_b rfl⟩ ⟨le_b rfl, le_b rfl⟩ rfl (le_b rfl) ?_
          rintro h2 _ ⟨hb2, f2, rfl⟩
          first
          | (obtain ⟨k, X, b1, b2⟩ := hx
             refine meas_add hn (by omega) hq hd ((f2 u (by omega)).trans ho) (hw.fr f2 (by omega)) ?_ ⟨k, X, b1.fr f2 (by omega), b2⟩ (hr.fr f2 (by omega)) (hf.trans (f2.wide (by omega) (by omega))) (fun h3 s3 r3 f3 => ih (i + 1) _ h3 _ (by omega) (by omega) (by omega) s3 r3 f3)
             simp only [nl, lbN, if_pos c56]
             exact hb2.congr (fun j hj => by
               by_cases e : j = nl T i + 1
               · subst e; rw [va_up_self, va_up_self, hq]; rfl
               · rw [va_up_ne _ _ e, va_up_ne _ _ e]))
          | (refine meas_add hn (by omega) hq hd ho hw ?_ hx hr hf (fun h3 s3 r3 f3 => ih (i + 1) _ h3 _ (by omega) (by omega) (by omega) s3 r3 f3)
             simp only [nl, lbN, if_neg c56]
             exact hb)
set_option maxRecDepth 100000 in
set_option maxHeartbeats 4000000 in
theorem c_measures {n0 No o : Nat} {T0 : Nat → Int} (hs : Sums h u n0 T0 s) (hr : Row h o No n T) (hn : n ≤ 120) (hT : ∀ j, j < n → 0 ≤ T j ∧ T j ≤ 255) (hd : u + 13 ≤ o ∨ o + 2 ≤ u) : qVo l mX5_measures 0 0 [.ref u, .ref o] h sz (fun h' sz' => Sums h' u n T 0 ∧ Fr h h' u (u + 13) ∧ sz' = sz) := by
  obtain ⟨ho, hw, hb, ⟨m, X, hx, -⟩, -, -⟩ := hs
  refine qC.of 4 (by decide) (le_b rfl) ?_
  refine qV_aload_n (pc := 0) 0 dX5_measures_0 rfl rfl ?_
  refine qV_voV (pc := 1) (c_startsOver ho hw.1 hw.2.1 hw.2.2.1 hw.2.2.2 hb hx T) nX5_startsOver kX5 lk_X5_35 dX5_measures_1 (by first | assumption | exact hU_self _ _ _ | (refine (hU_ne (by omega)).trans ?_; first | assumption | exact hU_self _ _ _ | (refine (hU_ne (by omega)).trans ?_; first | assumption | exact hU_self _ _ _ | (refine (hU_ne (by omega)).trans ?_; first | assumption | exact hU_self _ _ _)))) ⟨le_b rfl, le_b rfl⟩ ⟨le_b rfl, le_b rfl⟩ rfl (le_b rfl) ?_
  rintro h1 _ ⟨s1, f1, rfl⟩
  refine qV_iconst (pc := 4) dX5_measures_4 ?_
  refine qV_istore_n (pc := 5) 2 dX5_measures_5 rfl (le_b rfl) (le_b rfl) rfl ?_
  refine qV_iconst (pc := 6) dX5_measures_6 ?_
  refine qV_istore_n (pc := 7) 3 dX5_measures_7 rfl (le_b rfl) (le_b rfl) rfl ?_
  refine qV_iconst (pc := 8) dX5_measures_8 ?_
  refine qV_istore (pc := 9) 4 dX5_measures_9 (le_b rfl) (le_b rfl) rfl ?_
  exact meas_loop hn hT hd n 0 _ h1 _ (by omega) (by omega) rfl s1 (hr.fr f1 (by omega)) f1
set_option maxRecDepth 100000 in
set_option maxHeartbeats 4000000 in
theorem c_rowOf {q : Int} {w : Nat} (hs : Sums h u n T s) (hq : q = w) (hw4 : w < 4) : qRd l mX5_rowOf [.ref u, vI q] h sz (.ref (u + 1 + 2 * w)) := by
  obtain ⟨ho, hw, hb, hx, hs1, hn⟩ := id hs
  subst hq
  rcases (show w = 0 ∨ w = 1 ∨ w = 2 ∨ w = 3 by omega) with rfl | rfl | rfl | rfl
  · refine qC.of 0 (by decide) (le_b rfl) ?_
    refine qV_iload_n (pc := 0) 1 dX5_rowOf_0 rfl rfl ?_
    refine qV_tswOut (pc := 1) 43 dX5_rowOf_1 ⟨by decide, by decide⟩ (by decide) (by decide) ?_
    refine qV_aload_n (pc := 43) 0 dX5_rowOf_43 rfl rfl ?_
    refine qV_get (pc := 44) kX5 0 (le_b rfl) lk_X5_14 rfl dX5_rowOf_44 (by first | assumption | exact hU_self _ _ _ | (refine (hU_ne (by omega)).trans ?_; first | assumption | exact hU_self _ _ _ | (refine (hU_ne (by omega)).trans ?_; first | assumption | exact hU_self _ _ _ | (refine (hU_ne (by omega)).trans ?_; first | assumption | exact hU_self _ _ _)))) (by exact rfl) ?_
    refine qV_aret (pc := 47) dX5_rowOf_47 rfl (Or.inl ⟨_, rfl⟩) (by first | exact Or.inl rfl | exact Or.inr ⟨_, rfl⟩) (le_b rfl) (le_b rfl) ?_
    exact ⟨rfl, rfl, rfl⟩
  · refine qC.of 0 (by decide) (le_b rfl) ?_
    refine qV_iload_n (pc := 0) 1 dX5_rowOf_0 rfl rfl ?_
    refine qV_tswIn (pc := 1) 28 dX5_rowOf_1 ⟨by decide, by decide⟩ (by decide) (by decide) rfl (by decide) ?_
    refine qV_aload_n (pc := 28) 0 dX5_rowOf_28 rfl rfl ?_
    refine qV_get (pc := 29) kX5 1 (le_b rfl) lk_X5_20 rfl dX5_rowOf_29 (by first | assumption | exact hU_self _ _ _ | (refine (hU_ne (by omega)).trans ?_; first | assumption | exact hU_self _ _ _ | (refine (hU_ne (by omega)).trans ?_; first | assumption | exact hU_self _ _ _ | (refine (hU_ne (by omega)).trans ?_; first | assumption | exact hU_self _ _ _)))) (by exact rfl) ?_
    refine qV_aret (pc := 32) dX5_rowOf_32 rfl (Or.inl ⟨_, rfl⟩) (by first | exact Or.inl rfl | exact Or.inr ⟨_, rfl⟩) (le_b rfl) (le_b rfl) ?_
    exact ⟨rfl, rfl, rfl⟩
  · refine qC.of 0 (by decide) (le_b rfl) ?_
    refine qV_iload_n (pc := 0) 1 dX5_rowOf_0 rfl rfl ?_
    refine qV_tswIn (pc := 1) 33 dX5_rowOf_1 ⟨by decide, by decide⟩ (by decide) (by decide) rfl (by decide) ?_
    refine qV_aload_n (pc := 33) 0 dX5_rowOf_33 rfl rfl ?_
    refine qV_get (pc := 34) kX5 2 (le_b rfl) lk_X5_23 rfl dX5_rowOf_34 (by first | assumption | exact hU_self _ _ _ | (refine (hU_ne (by omega)).trans ?_; first | assumption | exact hU_self _ _ _ | (refine (hU_ne (by omega)).trans ?_; first | assumption | exact hU_self _ _ _ | (refine (hU_ne (by omega)).trans ?_; first | assumption | exact hU_self _ _ _)))) (by exact rfl) ?_
    refine qV_aret (pc := 37) dX5_rowOf_37 rfl (Or.inl ⟨_, rfl⟩) (by first | exact Or.inl rfl | exact Or.inr ⟨_, rfl⟩) (le_b rfl) (le_b rfl) ?_
    exact ⟨rfl, rfl, rfl⟩
  · refine qC.of 0 (by decide) (le_b rfl) ?_
    refine qV_iload_n (pc := 0) 1 dX5_rowOf_0 rfl rfl ?_
    refine qV_tswIn (pc := 1) 38 dX5_rowOf_1 ⟨by decide, by decide⟩ (by decide) (by decide) rfl (by decide) ?_
    refine qV_aload_n (pc := 38) 0 dX5_rowOf_38 rfl rfl ?_
    refine qV_get (pc := 39) kX5 3 (le_b rfl) lk_X5_26 rfl dX5_rowOf_39 (by first | assumption | exact hU_self _ _ _ | (refine (hU_ne (by omega)).trans ?_; first | assumption | exact hU_self _ _ _ | (refine (hU_ne (by omega)).trans ?_; first | assumption | exact hU_self _ _ _ | (refine (hU_ne (by omega)).trans ?_; first | assumption | exact hU_self _ _ _)))) (by exact rfl) ?_
    refine qV_aret (pc := 42) dX5_rowOf_42 rfl (Or.inl ⟨_, rfl⟩) (by first | exact Or.inl rfl | exact Or.inr ⟨_, rfl⟩) (le_b rfl) (le_b rfl) ?_
    exact ⟨rfl, rfl, rfl⟩
set_option maxRecDepth 100000 in
set_option maxHeartbeats 4000000 in
theorem c_ahead {q x : Int} {w j : Nat} (hs : Sums h u n T s) (hq : q = w) (hw4 : w < 4) (hx0 : x = j) (hj : j ≤ n) : qRd l mX5_ahead [.ref u, vI q, vI x] h sz (vI (measM T w j)) := by
  obtain ⟨ho, hw, hb, hx, hs1, hn⟩ := id hs
  have hr := hw.at hw4
  refine qC.of 0 (by decide) (le_b rfl) ?_
  refine qV_aload_n (pc := 0) 0 dX5_ahead_0 rfl rfl ?_
  refine qV_iload_n (pc := 1) 1 dX5_ahead_1 rfl rfl ?_
  refine qV_rdV (pc := 2) (c_rowOf hs hq hw4) nX5_rowOf kX5 lk_X5_67 dX5_ahead_2 (by first | assumption | exact hU_self _ _ _ | (refine (hU_ne (by omega)).trans ?_; first | assumption | exact hU_self _ _ _ | (refine (hU_ne (by omega)).trans ?_; first | assumption | exact hU_self _ _ _ | (refine (hU_ne (by omega)).trans ?_; first | assumption | exact hU_self _ _ _)))) ⟨le_b rfl, le_b rfl⟩ ⟨le_b rfl, le_b rfl⟩ rfl (le_b rfl) ?_
  refine qV_iload_n (pc := 5) 2 dX5_ahead_5 rfl rfl ?_
  refine qV_rdV (pc := 6) (c_gt hr hx0 (by omega)) nX3_get kX3 lk_X5_56 dX5_ahead_6 hr.obj ⟨le_b rfl, le_b rfl⟩ ⟨le_b rfl, le_b rfl⟩ rfl (le_b rfl) ?_
  refine qV_iret (pc := 9) dX5_ahead_9 rfl (le_b rfl) (le_b rfl) ?_
  exact ⟨rfl, rfl, rfl⟩
set_option maxRecDepth 100000 in
set_option maxHeartbeats 4000000 in
theorem c_between {q x y : Int} {w i j : Nat} (hs : Sums h u n T s) (hq : q = w) (hw4 : w < 4) (hx0 : x = i) (hi : i ≤ n) (hy0 : y = j) (hj : j ≤ n) : qRd l mX5_between [.ref u, vI q, vI x, vI y] h sz (vI (measM T w j - measM T w i)) := by
  obtain ⟨ho, hw, hb, hx, hs1, hn⟩ := id hs
  refine qC.of 0 (by decide) (le_b rfl) ?_
  refine qV_aload_n (pc := 0) 0 dX5_between_0 rfl rfl ?_
  refine qV_iload_n (pc := 1) 1 dX5_between_1 rfl rfl ?_
  refine qV_iload_n (pc := 2) 3 dX5_between_2 rfl rfl ?_
  refine qV_rdV (pc := 3) (c_ahead hs hq hw4 hy0 hj) nX5_ahead kX5 lk_X5_71 dX5_between_3 (by first | assumption | exact hU_self _ _ _ | (refine (hU_ne (by omega)).trans ?_; first | assumption | exact hU_self _ _ _ | (refine (hU_ne (by omega)).trans ?_; first | assumption | exact hU_self _ _ _ | (refine (hU_ne (by omega)).trans ?_; first | assumption | exact hU_self _ _ _)))) ⟨le_b rfl, le_b rfl⟩ ⟨le_b rfl, le_b rfl⟩ rfl (le_b rfl) ?_
  refine qV_aload_n (pc := 6) 0 dX5_between_6 rfl rfl ?_
  refine qV_iload_n (pc := 7) 1 dX5_between_7 rfl rfl ?_
  refine qV_iload_n (pc := 8) 2 dX5_between_8 rfl rfl ?_
  refine qV_rdV (pc := 9) (c_ahead hs hq hw4 hx0 hi) nX5_ahead kX5 lk_X5_71 dX5_between_9 (by first | assumption | exact hU_self _ _ _ | (refine (hU_ne (by omega)).trans ?_; first | assumption | exact hU_self _ _ _ | (refine (hU_ne (by omega)).trans ?_; first | assumption | exact hU_self _ _ _ | (refine (hU_ne (by omega)).trans ?_; first | assumption | exact hU_self _ _ _)))) ⟨le_b rfl, le_b rfl⟩ ⟨le_b rfl, le_b rfl⟩ rfl (le_b rfl) ?_
  refine qV_isub (pc := 12) dX5_between_12 ?_
  refine qV_iret (pc := 13) dX5_between_13 rfl (le_b rfl) (le_b rfl) ?_
  exact ⟨rfl, rfl, rfl⟩
set_option maxRecDepth 100000 in
set_option maxHeartbeats 4000000 in
theorem c_lastPlace (hs : Sums h u n T s) : qRd l mX5_lastPlace [.ref u] h sz (vI n) := by
  obtain ⟨ho, hw, hb, hx, hs1, hn⟩ := id hs
  refine qC.of 0 (by decide) (le_b rfl) ?_
  refine qV_aload_n (pc := 0) 0 dX5_lastPlace_0 rfl rfl ?_
  refine qV_get (pc := 1) kX5 0 (le_b rfl) lk_X5_14 rfl dX5_lastPlace_1 (by first | assumption | exact hU_self _ _ _ | (refine (hU_ne (by omega)).trans ?_; first | assumption | exact hU_self _ _ _ | (refine (hU_ne (by omega)).trans ?_; first | assumption | exact hU_self _ _ _ | (refine (hU_ne (by omega)).trans ?_; first | assumption | exact hU_self _ _ _)))) (by exact rfl) ?_
  refine qV_rdV (pc := 4) (c_size hw.1) nX3_size kX3 lk_X5_52 dX5_lastPlace_4 hw.1.obj ⟨le_b rfl, le_b rfl⟩ ⟨le_b rfl, le_b rfl⟩ rfl (le_b rfl) ?_
  refine qV_iconst (pc := 7) dX5_lastPlace_7 ?_
  refine qV_isub (pc := 8) dX5_lastPlace_8 ?_
  refine qV_iret (pc := 9) dX5_lastPlace_9 rfl (le_b rfl) (le_b rfl) ?_
  exact ⟨by congr 2; omega, rfl, rfl⟩
set_option maxRecDepth 100000 in
set_option maxHeartbeats 4000000 in
theorem c_total {q : Int} {w : Nat} (hs : Sums h u n T s) (hq : q = w) (hw4 : w < 4) : qRd l mX5_total [.ref u, vI q] h sz (vI (measM T w n)) := by
  obtain ⟨ho, hw, hb, hx, hs1, hn⟩ := id hs
  refine qC.of 0 (by decide) (le_b rfl) ?_
  refine qV_aload_n (pc := 0) 0 dX5_total_0 rfl rfl ?_
  refine qV_iload_n (pc := 1) 1 dX5_total_1 rfl rfl ?_
  refine qV_aload_n (pc := 2) 0 dX5_total_2 rfl rfl ?_
  refine qV_rdV (pc := 3) (c_lastPlace hs) nX5_lastPlace kX5 lk_X5_75 dX5_total_3 (by first | assumption | exact hU_self _ _ _ | (refine (hU_ne (by omega)).trans ?_; first | assumption | exact hU_self _ _ _ | (refine (hU_ne (by omega)).trans ?_; first | assumption | exact hU_self _ _ _ | (refine (hU_ne (by omega)).trans ?_; first | assumption | exact hU_self _ _ _)))) ⟨le_b rfl, le_b rfl⟩ ⟨le_b rfl, le_b rfl⟩ rfl (le_b rfl) ?_
  refine qV_rdV (pc := 6) (c_ahead hs hq hw4 rfl (Nat.le_refl n)) nX5_ahead kX5 lk_X5_71 dX5_total_6 (by first | assumption | exact hU_self _ _ _ | (refine (hU_ne (by omega)).trans ?_; first | assumption | exact hU_self _ _ _ | (refine (hU_ne (by omega)).trans ?_; first | assumption | exact hU_self _ _ _ | (refine (hU_ne (by omega)).trans ?_; first | assumption | exact hU_self _ _ _)))) ⟨le_b rfl, le_b rfl⟩ ⟨le_b rfl, le_b rfl⟩ rfl (le_b rfl) ?_
  refine qV_iret (pc := 9) dX5_total_9 rfl (le_b rfl) (le_b rfl) ?_
  exact ⟨rfl, rfl, rfl⟩
set_option maxRecDepth 100000 in
set_option maxHeartbeats 4000000 in
theorem c_lines (hs : Sums h u n T s) : qRd l mX5_lines [.ref u] h sz (vI (((nl T n + 1 : Nat)) : Int)) := by
  obtain ⟨ho, hw, hb, hx, hs1, hn⟩ := id hs
  refine qC.of 0 (by decide) (le_b rfl) ?_
  refine qV_aload_n (pc := 0) 0 dX5_lines_0 rfl rfl ?_
  refine qV_get (pc := 1) kX5 4 (le_b rfl) lk_X5_29 rfl dX5_lines_1 (by first | assumption | exact hU_self _ _ _ | (refine (hU_ne (by omega)).trans ?_; first | assumption | exact hU_self _ _ _ | (refine (hU_ne (by omega)).trans ?_; first | assumption | exact hU_self _ _ _ | (refine (hU_ne (by omega)).trans ?_; first | assumption | exact hU_self _ _ _)))) (by exact rfl) ?_
  refine qV_rdV (pc := 4) (c_size hb) nX3_size kX3 lk_X5_52 dX5_lines_4 hb.obj ⟨le_b rfl, le_b rfl⟩ ⟨le_b rfl, le_b rfl⟩ rfl (le_b rfl) ?_
  refine qV_iret (pc := 7) dX5_lines_7 rfl (le_b rfl) (le_b rfl) ?_
  exact ⟨rfl, rfl, rfl⟩
set_option maxRecDepth 100000 in
set_option maxHeartbeats 4000000 in
theorem c_lineBegin {q : Int} {k : Nat} (hs : Sums h u n T s) (hq : q = k) (hk : k ≤ nl T n) : qRd l mX5_lineBegin [.ref u, vI q] h sz (vI ((lbN T n k : Nat) : Int)) := by
  obtain ⟨ho, hw, hb, hx, hs1, hn⟩ := id hs
  refine qC.of 0 (by decide) (le_b rfl) ?_
  refine qV_aload_n (pc := 0) 0 dX5_lineBegin_0 rfl rfl ?_
  refine qV_get (pc := 1) kX5 4 (le_b rfl) lk_X5_29 rfl dX5_lineBegin_1 (by first | assumption | exact hU_self _ _ _ | (refine (hU_ne (by omega)).trans ?_; first | assumption | exact hU_self _ _ _ | (refine (hU_ne (by omega)).trans ?_; first | assumption | exact hU_self _ _ _ | (refine (hU_ne (by omega)).trans ?_; first | assumption | exact hU_self _ _ _)))) (by exact rfl) ?_
  refine qV_iload_n (pc := 4) 1 dX5_lineBegin_4 rfl rfl ?_
  refine qV_rdV (pc := 5) (c_gt hb hq (by omega)) nX3_get kX3 lk_X5_56 dX5_lineBegin_5 hb.obj ⟨le_b rfl, le_b rfl⟩ ⟨le_b rfl, le_b rfl⟩ rfl (le_b rfl) ?_
  refine qV_iret (pc := 8) dX5_lineBegin_8 rfl (le_b rfl) (le_b rfl) ?_
  exact ⟨rfl, rfl, rfl⟩
set_option maxRecDepth 100000 in
set_option maxHeartbeats 4000000 in
theorem c_lineEnd {q : Int} {k : Nat} (hs : Sums h u n T s) (hq : q = k) (hk : k ≤ nl T n) : qRd l mX5_lineEnd [.ref u, vI q] h sz (vI ((lnE T n k : Nat) : Int)) := by
  obtain ⟨ho, hw, hb, hx, hs1, hn⟩ := id hs
  have hle := hb.le
  have hln := nl_le T n
  refine qC.of 0 (by decide) (le_b rfl) ?_
  refine qV_iload_n (pc := 0) 1 dX5_lineEnd_0 rfl rfl ?_
  refine qV_iconst (pc := 1) dX5_lineEnd_1 ?_
  refine qV_iadd (pc := 2) dX5_lineEnd_2 ?_
  refine qV_aload_n (pc := 3) 0 dX5_lineEnd_3 rfl rfl ?_
  refine qV_rdV (pc := 4) (c_lines hs) nX5_lines kX5 lk_X5_89 dX5_lineEnd_4 (by first | assumption | exact hU_self _ _ _ | (refine (hU_ne (by omega)).trans ?_; first | assumption | exact hU_self _ _ _ | (refine (hU_ne (by omega)).trans ?_; first | assumption | exact hU_self _ _ _ | (refine (hU_ne (by omega)).trans ?_; first | assumption | exact hU_self _ _ _)))) ⟨le_b rfl, le_b rfl⟩ ⟨le_b rfl, le_b rfl⟩ rfl (le_b rfl) ?_
  refine qV_icmp_ge (pc := 7) 22 dX5_lineEnd_7 (by decide) ⟨by omega, by omega⟩ ⟨by omega, by omega⟩ (fun c7 => ?_) (fun c7 => ?_)
  · refine qV_aload_n (pc := 22) 0 dX5_lineEnd_22 rfl rfl ?_
    refine qV_rdV (pc := 23) (c_lastPlace hs) nX5_lastPlace kX5 lk_X5_75 dX5_lineEnd_23 (by first | assumption | exact hU_self _ _ _ | (refine (hU_ne (by omega)).trans ?_; first | assumption | exact hU_self _ _ _ | (refine (hU_ne (by omega)).trans ?_; first | assumption | exact hU_self _ _ _ | (refine (hU_ne (by omega)).trans ?_; first | assumption | exact hU_self _ _ _)))) ⟨le_b rfl, le_b rfl⟩ ⟨le_b rfl, le_b rfl⟩ rfl (le_b rfl) ?_
    refine qV_iret (pc := 26) dX5_lineEnd_26 rfl (le_b rfl) (le_b rfl) ?_
    first
    | exact ⟨by simp only [lnE]; rw [if_neg (by omega)], rfl, rfl⟩
    | exact ⟨by simp only [lnE]; rw [if_pos (by omega)]; congr 2; omega, rfl, rfl⟩
  · have hlt := lb_lt (T := T) (n := n) (k := k) (by omega)
    refine qV_aload_n (pc := 10) 0 dX5_lineEnd_10 rfl rfl ?_
    refine qV_iload_n (pc := 11) 1 dX5_lineEnd_11 rfl rfl ?_
    refine qV_iconst (pc := 12) dX5_lineEnd_12 ?_
    refine qV_iadd (pc := 13) dX5_lineEnd_13 ?_
    refine qV_rdV (pc := 14) (c_lineBegin (k := k + 1) hs (by omega) (by omega)) nX5_lineBegin kX5 lk_X5_78 dX5_lineEnd_14 (by first | assumption | exact hU_self _ _ _ | (refine (hU_ne (by omega)).trans ?_; first | assumption | exact hU_self _ _ _ | (refine (hU_ne (by omega)).trans ?_; first | assumption | exact hU_self _ _ _ | (refine (hU_ne (by omega)).trans ?_; first | assumption | exact hU_self _ _ _)))) ⟨le_b rfl, le_b rfl⟩ ⟨le_b rfl, le_b rfl⟩ rfl (le_b rfl) ?_
    refine qV_iconst (pc := 17) dX5_lineEnd_17 ?_
    refine qV_isub (pc := 18) dX5_lineEnd_18 ?_
    refine qV_goto (pc := 19) 26 dX5_lineEnd_19 (by decide) ?_
    refine qV_iret (pc := 26) dX5_lineEnd_26 rfl (le_b rfl) (le_b rfl) ?_
    first
    | exact ⟨by simp only [lnE]; rw [if_neg (by omega)], rfl, rfl⟩
    | exact ⟨by simp only [lnE]; rw [if_pos (by omega)]; congr 2; omega, rfl, rfl⟩
set_option maxRecDepth 100000 in
set_option maxHeartbeats 4000000 in
theorem c_lineWidth {q : Int} {k : Nat} (hs : Sums h u n T s) (hq : q = k) (hk : k ≤ nl T n) : qRd l mX5_lineWidth [.ref u, vI q] h sz (vI (lnW T n k)) := by
  obtain ⟨ho, hw, hb, hx, hs1, hn⟩ := id hs
  have he := lnE_in hk
  refine qC.of 0 (by decide) (le_b rfl) ?_
  refine qV_aload_n (pc := 0) 0 dX5_lineWidth_0 rfl rfl ?_
  refine qV_iconst (pc := 1) dX5_lineWidth_1 ?_
  refine qV_aload_n (pc := 2) 0 dX5_lineWidth_2 rfl rfl ?_
  refine qV_iload_n (pc := 3) 1 dX5_lineWidth_3 rfl rfl ?_
  refine qV_rdV (pc := 4) (c_lineBegin hs hq hk) nX5_lineBegin kX5 lk_X5_78 dX5_lineWidth_4 (by first | assumption | exact hU_self _ _ _ | (refine (hU_ne (by omega)).trans ?_; first | assumption | exact hU_self _ _ _ | (refine (hU_ne (by omega)).trans ?_; first | assumption | exact hU_self _ _ _ | (refine (hU_ne (by omega)).trans ?_; first | assumption | exact hU_self _ _ _)))) ⟨le_b rfl, le_b rfl⟩ ⟨le_b rfl, le_b rfl⟩ rfl (le_b rfl) ?_
  refine qV_aload_n (pc := 7) 0 dX5_lineWidth_7 rfl rfl ?_
  refine qV_iload_n (pc := 8) 1 dX5_lineWidth_8 rfl rfl ?_
  refine qV_rdV (pc := 9) (c_lineEnd hs hq hk) nX5_lineEnd kX5 lk_X5_92 dX5_lineWidth_9 (by first | assumption | exact hU_self _ _ _ | (refine (hU_ne (by omega)).trans ?_; first | assumption | exact hU_self _ _ _ | (refine (hU_ne (by omega)).trans ?_; first | assumption | exact hU_self _ _ _ | (refine (hU_ne (by omega)).trans ?_; first | assumption | exact hU_self _ _ _)))) ⟨le_b rfl, le_b rfl⟩ ⟨le_b rfl, le_b rfl⟩ rfl (le_b rfl) ?_
  refine qV_rdV (pc := 12) (c_between (w := 3) hs rfl (by omega) rfl (by omega) rfl (by omega)) nX5_between kX5 lk_X5_85 dX5_lineWidth_12 (by first | assumption | exact hU_self _ _ _ | (refine (hU_ne (by omega)).trans ?_; first | assumption | exact hU_self _ _ _ | (refine (hU_ne (by omega)).trans ?_; first | assumption | exact hU_self _ _ _ | (refine (hU_ne (by omega)).trans ?_; first | assumption | exact hU_self _ _ _)))) ⟨le_b rfl, le_b rfl⟩ ⟨le_b rfl, le_b rfl⟩ rfl (le_b rfl) ?_
  refine qV_iret (pc := 15) dX5_lineWidth_15 rfl (le_b rfl) (le_b rfl) ?_
  exact ⟨rfl, rfl, rfl⟩
set_option maxRecDepth 100000 in
set_option maxHeartbeats 4000000 in
theorem far_loop {w a b : Nat} {v0 : Int} (hs : Sums h u n T s) (hw4 : w < 4) (hab : a ≤ b) (hbn : b ≤ n) (hv : iR v0) : ∀ (d p : Nat) (q : Int), b - p = d → a ≤ p → p ≤ b → q = p → far T w a v0 d p = far T w a v0 (b - a) a → qVM l mX5_farthest 0 0 h sz (fun v h' sz' => v = some (vI ((far T w a v0 (b - a) a : Nat) : Int)) ∧ h' = h ∧ sz' = sz) 0 0 h sz 3 [some (.ref u), some (vI w), some (vI a), some (vI b), some (vI v0), some (vI q)] [] := by
  obtain ⟨ho, hw, hb, hx, hs1, hn⟩ := id hs
  obtain ⟨v1, v2⟩ := hv
  intro d
  induction d with
  | zero =>
    intro p q hd ha hp hq he
    obtain rfl : p = b := by omega
    refine qV_iload (pc := 3) 5 dX5_farthest_3 rfl ?_
    refine qV_iload_n (pc := 5) 3 dX5_farthest_5 rfl rfl ?_
    refine qV_icmp_ge (pc := 6) 30 dX5_farthest_6 (by decide) ⟨by omega, by omega⟩ ⟨by omega, by omega⟩ (fun c6 => ?_) (fun c6 => ?_)
    · refine qV_iload (pc := 30) 5 dX5_farthest_30 rfl ?_
      refine qV_iret (pc := 32) dX5_farthest_32 rfl (le_b rfl) (le_b rfl) ?_
      exact ⟨by rw [← he, hq]; rfl, rfl, rfl⟩
    · exfalso; omega
  | succ d ih =>
    intro p q hd ha hp hq he
    have m1 := measM_in T w (p + 1)
    have m2 := measM_in T w a
    refine qV_iload (pc := 3) 5 dX5_farthest_3 rfl ?_
    refine qV_iload_n (pc := 5) 3 dX5_farthest_5 rfl rfl ?_
    refine qV_icmp_ge (pc := 6) 30 dX5_farthest_6 (by decide) ⟨by omega, by omega⟩ ⟨by omega, by omega⟩ (fun c6 => ?_) (fun c6 => ?_)
    · exfalso; omega
    · refine qV_aload_n (pc := 9) 0 dX5_farthest_9 rfl rfl ?_
      refine qV_iload_n (pc := 10) 1 dX5_farthest_10 rfl rfl ?_
      refine qV_iload_n (pc := 11) 2 dX5_farthest_11 rfl rfl ?_
      refine qV_iload (pc := 12) 5 dX5_farthest_12 rfl ?_
      refine qV_iconst (pc := 14) dX5_farthest_14 ?_
      refine qV_iadd (pc := 15) dX5_farthest_15 ?_
      refine qV_rdV (pc := 16) (c_between (w := w) (i := a) (j := p + 1) hs rfl hw4 rfl (by omega) (by omega) (by omega)) nX5_between kX5 lk_X5_85 dX5_farthest_16 (by first | assumption | exact hU_self _ _ _ | (refine (hU_ne (by omega)).trans ?_; first | assumption | exact hU_self _ _ _ | (refine (hU_ne (by omega)).trans ?_; first | assumption | exact hU_self _ _ _ | (refine (hU_ne (by omega)).trans ?_; first | assumption | exact hU_self _ _ _)))) ⟨le_b rfl, le_b rfl⟩ ⟨le_b rfl, le_b rfl⟩ rfl (le_b rfl) ?_
      refine qV_iload (pc := 19) 4 dX5_farthest_19 rfl ?_
      refine qV_icmp_gt (pc := 21) 30 dX5_farthest_21 (by decide) ⟨by omega, by omega⟩ ⟨by omega, by omega⟩ (fun c21 => ?_) (fun c21 => ?_)
      · refine qV_iload (pc := 30) 5 dX5_farthest_30 rfl ?_
        refine qV_iret (pc := 32) dX5_farthest_32 rfl (le_b rfl) (le_b rfl) ?_
        exact ⟨by rw [← he, hq]; simp only [far]; rw [if_neg (by omega)], rfl, rfl⟩
      · refine qV_iinc (pc := 24) 5 dX5_farthest_24 rfl (le_b rfl) (le_b rfl) rfl ?_
        refine qV_goto (pc := 27) 3 dX5_farthest_27 (by decide) ?_
        exact ih (p + 1) _ (by omega) (by omega) (by omega) (by omega) (by rw [← he]; simp only [far]; rw [if_pos (by omega)])
set_option maxRecDepth 100000 in
set_option maxHeartbeats 4000000 in
theorem c_farthest {q x y v0 : Int} {w a b : Nat} (hs : Sums h u n T s) (hq : q = w) (hw4 : w < 4) (hx0 : x = a) (hab : a ≤ b) (hy0 : y = b) (hbn : b ≤ n) (hv : iR v0) : qRd l mX5_farthest [.ref u, vI q, vI x, vI y, vI v0] h sz (vI ((far T w a v0 (b - a) a : Nat) : Int)) := by
  subst hq; subst hx0; subst hy0
  refine qC.of 1 (by decide) (le_b rfl) ?_
  refine qV_iload_n (pc := 0) 2 dX5_farthest_0 rfl rfl ?_
  refine qV_istore (pc := 1) 5 dX5_farthest_1 (le_b rfl) (le_b rfl) rfl ?_
  exact far_loop hs hw4 hab hbn hv (b - a) a _ rfl (Nat.le_refl a) hab rfl rfl
set_option maxRecDepth 100000 in
set_option maxHeartbeats 4000000 in
theorem c_placeBy {q v0 : Int} {w : Nat} (hs : Sums h u n T s) (hq : q = w) (hw4 : w < 4) (h0 : 0 ≤ v0) (hv : v0 ≤ measM T w n) : qRd l mX5_placeBy [.ref u, vI q, vI v0] h sz (vI ((if w = 2 then lbN T n v0.toNat else far T w 0 v0 n 0 : Nat) : Int)) := by
  obtain ⟨ho, hw, hb, hx, hs1, hn⟩ := id hs
  have hm := measM_in T w n
  refine qC.of 0 (by decide) (le_b rfl) ?_
  refine qV_iload_n (pc := 0) 1 dX5_placeBy_0 rfl rfl ?_
  refine qV_iconst (pc := 1) dX5_placeBy_1 ?_
  refine qV_icmp_ne (pc := 2) 11 dX5_placeBy_2 (by decide) ⟨by omega, by omega⟩ ⟨by omega, by omega⟩ (fun c2 => ?_) (fun c2 => ?_)
  · refine qV_aload_n (pc := 11) 0 dX5_placeBy_11 rfl rfl ?_
    refine qV_iload_n (pc := 12) 1 dX5_placeBy_12 rfl rfl ?_
    refine qV_iconst (pc := 13) dX5_placeBy_13 ?_
    refine qV_aload_n (pc := 14) 0 dX5_placeBy_14 rfl rfl ?_
    refine qV_rdV (pc := 15) (c_lastPlace hs) nX5_lastPlace kX5 lk_X5_75 dX5_placeBy_15 (by first | assumption | exact hU_self _ _ _ | (refine (hU_ne (by omega)).trans ?_; first | assumption | exact hU_self _ _ _ | (refine (hU_ne (by omega)).trans ?_; first | assumption | exact hU_self _ _ _ | (refine (hU_ne (by omega)).trans ?_; first | assumption | exact hU_self _ _ _)))) ⟨le_b rfl, le_b rfl⟩ ⟨le_b rfl, le_b rfl⟩ rfl (le_b rfl) ?_
    refine qV_iload_n (pc := 18) 2 dX5_placeBy_18 rfl rfl ?_
    refine qV_rdV (pc := 19) (c_farthest (w := w) (a := 0) (b := n) hs hq hw4 rfl (by omega) rfl (Nat.le_refl n) ⟨by omega, by omega⟩) nX5_farthest kX5 lk_X5_81 dX5_placeBy_19 (by first | assumption | exact hU_self _ _ _ | (refine (hU_ne (by omega)).trans ?_; first | assumption | exact hU_self _ _ _ | (refine (hU_ne (by omega)).trans ?_; first | assumption | exact hU_self _ _ _ | (refine (hU_ne (by omega)).trans ?_; first | assumption | exact hU_self _ _ _)))) ⟨le_b rfl, le_b rfl⟩ ⟨le_b rfl, le_b rfl⟩ rfl (le_b rfl) ?_
    refine qV_iret (pc := 22) dX5_placeBy_22 rfl (le_b rfl) (le_b rfl) ?_
    first | exact ⟨by rw [if_pos (by omega)], rfl, rfl⟩ | exact ⟨by rw [if_neg (by omega)]; rfl, rfl, rfl⟩
  · have h2 : w = 2 := by omega
    subst h2
    rw [nl_meas] at hv
    refine qV_aload_n (pc := 5) 0 dX5_placeBy_5 rfl rfl ?_
    refine qV_iload_n (pc := 6) 2 dX5_placeBy_6 rfl rfl ?_
    refine qV_rdV (pc := 7) (c_lineBegin (k := v0.toNat) hs (by omega) (by omega)) nX5_lineBegin kX5 lk_X5_78 dX5_placeBy_7 (by first | assumption | exact hU_self _ _ _ | (refine (hU_ne (by omega)).trans ?_; first | assumption | exact hU_self _ _ _ | (refine (hU_ne (by omega)).trans ?_; first | assumption | exact hU_self _ _ _ | (refine (hU_ne (by omega)).trans ?_; first | assumption | exact hU_self _ _ _)))) ⟨le_b rfl, le_b rfl⟩ ⟨le_b rfl, le_b rfl⟩ rfl (le_b rfl) ?_
    refine qV_iret (pc := 10) dX5_placeBy_10 rfl (le_b rfl) (le_b rfl) ?_
    first | exact ⟨by rw [if_pos (by omega)], rfl, rfl⟩ | exact ⟨by rw [if_neg (by omega)]; rfl, rfl, rfl⟩
end SUMS
