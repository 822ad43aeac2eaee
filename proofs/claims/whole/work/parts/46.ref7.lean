/-! ===== the reference: how it begins ===== -/
abbrev rob0 : qE := oB 7 [.null, .null, vI 0, .null, .null, .null, vI 0, .null, .null, .null, .null, vI 0]
section REF7
variable {l : Launch} {h : qH} {sz r : Nat}
set_option maxRecDepth 100000 in
set_option maxHeartbeats 4000000 in
theorem rinit_loop {kn ty st : Int} {h0 : qH} {sz0 : Nat} {Q : Option Value → qH → Nat → Prop} (ho : h r = some (rob r kn ty st))
    (kk : ∀ (g : Nat → Int), (∀ j, j < 26 → g (515 + j) = -1) → (∀ q, q < 515 → g q = 0) → Q none (hM h r g) sz) :
    ∀ (d v : Nat) (q : Int) (g : Nat → Int), 26 - v = d → v ≤ 26 → q = v → (∀ j, j < v → g (515 + j) = -1) → (∀ q, q < 515 → g q = 0) → qVM l mX7_init 9 6085 h0 sz0 Q 9 6085 (hM h r g) sz 77 [some (.ref r), some (vI q)] [] := by
  intro d
  induction d with
  | zero =>
    intro v q g hd hv hq g1 g2
    obtain rfl : v = 26 := by omega
    refine qV_iload_n (pc := 77) 1 dX7_init_77 rfl rfl ?_
    refine qV_bipush (pc := 78) dX7_init_78 rfl ?_
    refine qV_icmp_ge (pc := 80) 100 dX7_init_80 (by decide) ⟨by omega, by omega⟩ ⟨by omega, by omega⟩ (fun c80 => ?_) (fun c80 => ?_)
    · refine qV_vret (pc := 100) dX7_init_100 rfl (le_b rfl) (le_b rfl) ?_
      exact kk g g1 g2
    · exfalso; omega
  | succ d ih =>
    intro v q g hd hv hq g1 g2
    refine qV_iload_n (pc := 77) 1 dX7_init_77 rfl rfl ?_
    refine qV_bipush (pc := 78) dX7_init_78 rfl ?_
    refine qV_icmp_ge (pc := 80) 100 dX7_init_80 (by decide) ⟨by omega, by omega⟩ ⟨by omega, by omega⟩ (fun c80 => ?_) (fun c80 => ?_)
    · exfalso; omega
    · refine qV_aload_n (pc := 83) 0 dX7_init_83 rfl rfl ?_
      refine qV_get (pc := 84) kX7 0 (le_b rfl) lk_X7_7 rfl dX7_init_84 (by first | assumption | exact hU_self _ _ _ | (refine (hU_ne (by omega)).trans ?_; first | assumption | exact hU_self _ _ _ | (refine (hU_ne (by omega)).trans ?_; first | assumption | exact hU_self _ _ _ | (refine (hU_ne (by omega)).trans ?_; first | assumption | exact hU_self _ _ _)))) (by exact rfl) ?_
      refine qV_sipush (pc := 87) dX7_init_87 rfl ?_
      refine qV_iload_n (pc := 90) 1 dX7_init_90 rfl rfl ?_
      refine qV_iadd (pc := 91) dX7_init_91 ?_
      refine qV_iconst (pc := 92) dX7_init_92 ?_
      refine qV_iastM (pc := 93) (515 + v) dX7_init_93 (by omega) (by omega) ?_
      refine qV_iinc (pc := 94) 1 dX7_init_94 rfl (le_b rfl) (le_b rfl) rfl ?_
      refine qV_goto (pc := 97) 77 dX7_init_97 (by decide) ?_
      refine ih (v + 1) _ _ (by omega) (by omega) (by omega) (fun j hj => ?_) (fun q hq => ?_)
      · by_cases e : j = v
        · subst e; rw [va_up_self]
        · rw [va_up_ne _ _ (by omega)]; exact g1 j (by omega)
      · rw [va_up_ne _ _ (by omega)]; exact g2 q hq
theorem SP_X0 {g : Nat → Int} (g1 : ∀ j, j < 26 → g (515 + j) = -1) (g2 : ∀ q, q < 515 → g q = 0) : SP g X0.1 := ⟨g2 0 (by omega), g2 1 (by omega), g2 2 (by omega), fun j hj => absurd hj (Nat.not_lt_zero j), fun j hj => absurd hj (Nat.not_lt_zero j), fun j hj => (g1 j hj).trans rfl⟩
set_option maxRecDepth 100000 in
set_option maxHeartbeats 4000000 in
theorem m_init (h1 : h r = some rob0) (hs : sz = r + 1) : qVo l mX7_init 9 6085 [.ref r] h sz (fun h' sz' => RInv h' r X0 ∧ Fr h h' r (r + 10) ∧ sz' = r + 10) := by
  subst hs
  refine qC.of 1 (by decide) (le_b rfl) ?_
  refine qV_aload_n (pc := 0) 0 dX7_init_0 rfl rfl ?_
  refine qV_objinit (pc := 1) lk_X7_1 dX7_init_1 (le_b rfl) (le_b rfl) ?_
  refine qV_aload_n (pc := 4) 0 dX7_init_4 rfl rfl ?_
  refine qV_sipush (pc := 5) dX7_init_5 rfl ?_
  refine qV_newi (pc := 8) (kd := 0) (at0 := .int) rfl rfl wa_int (fun s cA h => h) dX7_init_8 (by omega) (le_b rfl) (le_b rfl) (le_b rfl) ?_
  refine qV_putF (pc := 10) kX7 0 (le_b rfl) lk_X7_7 rfl rfl rfl rfl rfl rfl dX7_init_10 (by repeat (first | assumption | exact hU_self _ _ _ | refine (hU_ne (by omega)).trans ?_)) (by exact le_b rfl) ?_
  refine qV_aload_n (pc := 13) 0 dX7_init_13 rfl rfl ?_
  refine qV_sipush (pc := 14) dX7_init_14 rfl ?_
  refine qV_newi (pc := 17) (kd := 0) (at0 := .int) rfl rfl wa_int (fun s cA h => h) dX7_init_17 (by omega) (le_b rfl) (le_b rfl) (le_b rfl) ?_
  refine qV_putF (pc := 19) kX7 1 (le_b rfl) lk_X7_13 rfl rfl rfl rfl rfl rfl dX7_init_19 (by repeat (first | assumption | exact hU_self _ _ _ | refine (hU_ne (by omega)).trans ?_)) (by exact le_b rfl) ?_
  refine qV_aload_n (pc := 22) 0 dX7_init_22 rfl rfl ?_
  refine qV_sipush (pc := 23) dX7_init_23 rfl ?_
  refine qV_newi (pc := 26) (kd := 0) (at0 := .int) rfl rfl wa_int (fun s cA h => h) dX7_init_26 (by omega) (le_b rfl) (le_b rfl) (le_b rfl) ?_
  refine qV_putF (pc := 28) kX7 3 (le_b rfl) lk_X7_16 rfl rfl rfl rfl rfl rfl dX7_init_28 (by repeat (first | assumption | exact hU_self _ _ _ | refine (hU_ne (by omega)).trans ?_)) (by exact le_b rfl) ?_
  refine qV_aload_n (pc := 31) 0 dX7_init_31 rfl rfl ?_
  refine qV_iconst (pc := 32) dX7_init_32 ?_
  refine qV_newi (pc := 33) (kd := 1) (at0 := .boolean) rfl rfl wa_boolean (fun s cA h => h) dX7_init_33 (by omega) (le_b rfl) (le_b rfl) (le_b rfl) ?_
  refine qV_putF (pc := 35) kX7 4 (le_b rfl) lk_X7_19 rfl rfl rfl rfl rfl rfl dX7_init_35 (by repeat (first | assumption | exact hU_self _ _ _ | refine (hU_ne (by omega)).trans ?_)) (by exact le_b rfl) ?_
  refine qV_aload_n (pc := 38) 0 dX7_init_38 rfl rfl ?_
  refine qV_bipush (pc := 39) dX7_init_39 rfl ?_
  refine qV_newi (pc := 41) (kd := 0) (at0 := .int) rfl rfl wa_int (fun s cA h => h) dX7_init_41 (by omega) (le_b rfl) (le_b rfl) (le_b rfl) ?_
  refine qV_putF (pc := 43) kX7 5 (le_b rfl) lk_X7_23 rfl rfl rfl rfl rfl rfl dX7_init_43 (by repeat (first | assumption | exact hU_self _ _ _ | refine (hU_ne (by omega)).trans ?_)) (by exact le_b rfl) ?_
  refine qV_aload_n (pc := 46) 0 dX7_init_46 rfl rfl ?_
  refine qV_iconst (pc := 47) dX7_init_47 ?_
  refine qV_newi (pc := 48) (kd := 0) (at0 := .int) rfl rfl wa_int (fun s cA h => h) dX7_init_48 (by omega) (le_b rfl) (le_b rfl) (le_b rfl) ?_
  refine qV_putF (pc := 50) kX7 7 (le_b rfl) lk_X7_26 rfl rfl rfl rfl rfl rfl dX7_init_50 (by repeat (first | assumption | exact hU_self _ _ _ | refine (hU_ne (by omega)).trans ?_)) (by exact le_b rfl) ?_
  refine qV_aload_n (pc := 53) 0 dX7_init_53 rfl rfl ?_
  refine qV_iconst (pc := 54) dX7_init_54 ?_
  refine qV_newi (pc := 55) (kd := 0) (at0 := .int) rfl rfl wa_int (fun s cA h => h) dX7_init_55 (by omega) (le_b rfl) (le_b rfl) (le_b rfl) ?_
  refine qV_putF (pc := 57) kX7 8 (le_b rfl) lk_X7_29 rfl rfl rfl rfl rfl rfl dX7_init_57 (by repeat (first | assumption | exact hU_self _ _ _ | refine (hU_ne (by omega)).trans ?_)) (by exact le_b rfl) ?_
  refine qV_aload_n (pc := 60) 0 dX7_init_60 rfl rfl ?_
  refine qV_bipush (pc := 61) dX7_init_61 rfl ?_
  refine qV_newi (pc := 63) (kd := 0) (at0 := .int) rfl rfl wa_int (fun s cA h => h) dX7_init_63 (by omega) (le_b rfl) (le_b rfl) (le_b rfl) ?_
  refine qV_putF (pc := 65) kX7 9 (le_b rfl) lk_X7_32 rfl rfl rfl rfl rfl rfl dX7_init_65 (by repeat (first | assumption | exact hU_self _ _ _ | refine (hU_ne (by omega)).trans ?_)) (by exact le_b rfl) ?_
  refine qV_aload_n (pc := 68) 0 dX7_init_68 rfl rfl ?_
  refine qV_iconst (pc := 69) dX7_init_69 ?_
  refine qV_newi (pc := 70) (kd := 0) (at0 := .int) rfl rfl wa_int (fun s cA h => h) dX7_init_70 (by omega) (le_b rfl) (le_b rfl) (le_b rfl) ?_
  refine qV_putF (pc := 72) kX7 10 (le_b rfl) lk_X7_35 rfl rfl rfl rfl rfl rfl dX7_init_72 (by repeat (first | assumption | exact hU_self _ _ _ | refine (hU_ne (by omega)).trans ?_)) (by exact le_b rfl) ?_
  refine qV_iconst (pc := 75) dX7_init_75 ?_
  refine qV_istore_n (pc := 76) 1 dX7_init_76 rfl (le_b rfl) (le_b rfl) rfl ?_
  refine qV_heap ?_ (hU_id (a := r + 1) (e := iA 0 541 (fun _ => 0)) (by repeat (first | assumption | exact hU_self _ _ _ | refine (hU_ne (by omega)).trans ?_))).symm rfl
  refine rinit_loop (kn := 0) (ty := 0) (st := 0) (by repeat (first | assumption | exact hU_self _ _ _ | refine (hU_ne (by omega)).trans ?_)) (fun g g1 g2 => ?_) 26 0 _ _ (by omega) (by omega) rfl (fun j hj => by omega) (fun _ _ => rfl)
  refine ⟨rfl, ⟨g, fun _ => 0, fun _ => 0, fun _ => 0, fun _ => 0, fun _ => 0, fun _ => 0, fun _ => 0, fun _ => 0, ⟨(by repeat (first | assumption | exact hU_self _ _ _ | refine (hU_ne (by omega)).trans ?_)), (by repeat (first | assumption | exact hU_self _ _ _ | refine (hU_ne (by omega)).trans ?_)), (by repeat (first | assumption | exact hU_self _ _ _ | refine (hU_ne (by omega)).trans ?_)), (by repeat (first | assumption | exact hU_self _ _ _ | refine (hU_ne (by omega)).trans ?_)), (by repeat (first | assumption | exact hU_self _ _ _ | refine (hU_ne (by omega)).trans ?_)), (by repeat (first | assumption | exact hU_self _ _ _ | refine (hU_ne (by omega)).trans ?_)), (by repeat (first | assumption | exact hU_self _ _ _ | refine (hU_ne (by omega)).trans ?_)), (by repeat (first | assumption | exact hU_self _ _ _ | refine (hU_ne (by omega)).trans ?_)), (by repeat (first | assumption | exact hU_self _ _ _ | refine (hU_ne (by omega)).trans ?_)), (by repeat (first | assumption | exact hU_self _ _ _ | refine (hU_ne (by omega)).trans ?_))⟩, SP_X0 g1 g2, RPast.z0, fun i _ => ⟨fun _ => rfl, fun Q hQ => by cases hQ⟩, fun j hj => absurd hj (Nat.not_lt_zero j), RStg.z0⟩, (fun q hq => by repeat (first | with_reducible rfl | refine (hU_ne (by omega)).trans ?_)), rfl⟩
end REF7
