/-! ===== Page: a new one, what is asked of it ===== -/
section PAGE2
variable {l : Launch} {h : qH} {sz p B : Nat} {P : PG}
theorem fs2 : ∀ j, j < 2 → defaultValue (tyX3 j) = vp_V [.null, vI 0] j := by intro j hj; rcases (show j = 0 ∨ j = 1 by omega) with rfl | rfl <;> rfl
set_option maxRecDepth 100000 in
set_option maxHeartbeats 4000000 in
theorem init_loop {k n : Nat} {x : Int} (hk : k ≤ 6) (hn : n ≤ 32 + 2 * B) : ∀ (m i : Nat) (q : Int) (h1 : qH), 26 - i = m → i ≤ 26 → q = i → h1 p = some (pob p 0) → Row h1 (p + 3) B 0 (fun _ => 0) → Row h1 (p + 5) B 0 (fun _ => 0) → Row h1 (p + 1) 26 i (fun _ => -9) → Fr h h1 p (p + 7) → qVM l mX2_init 6 (32 + 2 * B) h sz (fun v h' sz' => v = none ∧ Page h' p B (0, (fun _ => 0), 0, (fun _ => 0), (fun _ => -9), 0) ∧ Fr h h' p (p + 7) ∧ sz' = p + 7) k n h1 (p + 7) 43 [some (.ref p), some (vI x), some (vI q)] [] := by
  intro m
  induction m with
  | zero =>
    intro i q h1 hm hi hq ho hb hc hr hf
    obtain rfl : i = 26 := by omega
    refine qV_iload_n (pc := 43) 2 dX2_init_43 rfl rfl ?_
    refine qV_bipush (pc := 44) dX2_init_44 rfl ?_
    refine qV_icmp_ge (pc := 46) 64 dX2_init_46 (by decide) ⟨by omega, by omega⟩ ⟨by omega, by omega⟩ (fun c46 => ?_) (fun c46 => ?_)
    · refine qV_vret (pc := 64) dX2_init_64 rfl hk hn ?_
      exact ⟨rfl, ⟨ho, hb, hc, hr⟩, hf, rfl⟩
    · exfalso; omega
  | succ m ih =>
    intro i q h1 hm hi hq ho hb hc hr hf
    refine qV_iload_n (pc := 43) 2 dX2_init_43 rfl rfl ?_
    refine qV_bipush (pc := 44) dX2_init_44 rfl ?_
    refine qV_icmp_ge (pc := 46) 64 dX2_init_46 (by decide) ⟨by omega, by omega⟩ ⟨by omega, by omega⟩ (fun c46 => ?_) (fun c46 => ?_)
    · exfalso; omega
    · refine qV_aload_n (pc := 49) 0 dX2_init_49 rfl rfl ?_
      refine qV_get (pc := 50) kX2 2 (le_b rfl) lk_X2_14 rfl dX2_init_50 (by first | assumption | exact hU_self _ _ _ | (refine (hU_ne (by omega)).trans ?_; first | assumption | exact hU_self _ _ _ | (refine (hU_ne (by omega)).trans ?_; first | assumption | exact hU_self _ _ _ | (refine (hU_ne (by omega)).trans ?_; first | assumption | exact hU_self _ _ _)))) (by exact rfl) ?_
      refine qV_bipush (pc := 53) dX2_init_53 rfl ?_
      refine qV_voV (pc := 55) (c_add hr (by omega)) nX3_add kX3 lk_X2_26 dX2_init_55 hr.obj ⟨le_b rfl, le_b rfl⟩ ⟨hk, hn⟩ rfl (le_b rfl) ?_
      rintro h2 _ ⟨hr2, hf2, rfl⟩
      refine qV_iinc (pc := 58) 2 dX2_init_58 rfl (le_b rfl) (le_b rfl) rfl ?_
      refine qV_goto (pc := 61) 43 dX2_init_61 (by decide) ?_
      exact ih (i + 1) _ h2 (by omega) (by omega) (by omega) ((hf2 p (by omega)).trans ho) (hb.fr hf2 (by omega)) (hc.fr hf2 (by omega)) (hr2.congr (fun j hj => by
        by_cases e : j = i
        · subst e; rw [va_up_self]
        · rw [va_up_ne _ _ e])) (hf.trans (hf2.wide (by omega) (by omega)))
set_option maxRecDepth 100000 in
set_option maxHeartbeats 4000000 in
theorem c_Page_init {q : Int} (hq : q = B) (hB : B ≤ 5000) (h1 : h p = some (oB 2 [.null, .null, .null, vI 0])) (hs : sz = p + 1) : qVo l mX2_init 6 (32 + 2 * B) [.ref p, vI q] h sz (fun h' sz' => Page h' p B (0, (fun _ => 0), 0, (fun _ => 0), (fun _ => -9), 0) ∧ Fr h h' p (p + 7) ∧ sz' = p + 7) := by
  subst hs
  refine qC.of 1 (by decide) (le_b rfl) ?_
  refine qV_aload_n (pc := 0) 0 dX2_init_0 rfl rfl ?_
  refine qV_objinit (pc := 1) lk_X2_3 dX2_init_1 (le_b rfl) (le_b rfl) ?_
  refine qV_aload_n (pc := 4) 0 dX2_init_4 rfl rfl ?_
  refine qV_new (pc := 5) [.null, vI 0] kX3 lk_X2_9 wb_X3 wn_X3 fs2 dX2_init_5 (le_b rfl) (by show _ ≤ 32 + 2 * B; omega) ?_
  refine qV_dup (pc := 8) dX2_init_8 rfl ?_
  refine qV_bipush (pc := 9) dX2_init_9 rfl ?_
  refine qV_voI (pc := 11) (c_Row_init (r := p + 1) (N := 26) (fun _ => -9) rfl (by omega) (hU_self _ _ _) rfl) nX3_init lk_X2_11 dX2_init_11 ⟨le_b rfl, le_b rfl⟩ ⟨le_b rfl, by show _ ≤ 32 + 2 * B; omega⟩ rfl (le_b rfl) ?_
  rintro h2 _ ⟨r2, f2, rfl⟩
  have o2 : h2 p = some (oB 2 [.null, .null, .null, vI 0]) := (f2 p (by omega)).trans ((hU_ne (by omega)).trans h1)
  refine qV_putF (pc := 14) kX2 2 (le_b rfl) lk_X2_14 rfl rfl rfl rfl rfl rfl dX2_init_14 (by first | assumption | exact hU_self _ _ _ | (refine (hU_ne (by omega)).trans ?_; first | assumption | exact hU_self _ _ _ | (refine (hU_ne (by omega)).trans ?_; first | assumption | exact hU_self _ _ _ | (refine (hU_ne (by omega)).trans ?_; first | assumption | exact hU_self _ _ _)))) (by exact le_b rfl) ?_
  refine qV_aload_n (pc := 17) 0 dX2_init_17 rfl rfl ?_
  refine qV_new (pc := 18) [.null, vI 0] kX3 lk_X2_9 wb_X3 wn_X3 fs2 dX2_init_18 (le_b rfl) (by show _ ≤ 32 + 2 * B; omega) ?_
  refine qV_dup (pc := 21) dX2_init_21 rfl ?_
  refine qV_iload_n (pc := 22) 1 dX2_init_22 rfl rfl ?_
  refine qV_voI (pc := 23) (c_Row_init (r := p + 3) (N := B) (fun _ => 0) hq hB (hU_self _ _ _) rfl) nX3_init lk_X2_11 dX2_init_23 ⟨le_b rfl, le_b rfl⟩ ⟨le_b rfl, by show _ ≤ 32 + 2 * B; omega⟩ rfl (le_b rfl) ?_
  rintro h3 _ ⟨r3, f3, rfl⟩
  have o3 : h3 p = some (oB 2 [.null, .null, .ref (p + 1), vI 0]) := (f3 p (by omega)).trans ((hU_ne (by omega)).trans (hU_self _ _ _))
  have g2 : Fr h2 h3 p (p + 7) := ((Fr.hU (lo := p) (hi := p + 7) (by omega) (by omega)).trans (Fr.hU (by omega) (by omega))).trans (f3.wide (by omega) (by omega))
  have r2' : Row h3 (p + 1) 26 0 (fun _ => -9) := ((r2.fr (Fr.hU (lo := p) (hi := p + 1) (by omega) (by omega)) (by omega)).fr (Fr.hU (lo := p + 3) (hi := p + 4) (by omega) (by omega)) (by omega)).fr f3 (by omega)
  refine qV_putF (pc := 26) kX2 0 (le_b rfl) lk_X2_20 rfl rfl rfl rfl rfl rfl dX2_init_26 (by first | assumption | exact hU_self _ _ _ | (refine (hU_ne (by omega)).trans ?_; first | assumption | exact hU_self _ _ _ | (refine (hU_ne (by omega)).trans ?_; first | assumption | exact hU_self _ _ _ | (refine (hU_ne (by omega)).trans ?_; first | assumption | exact hU_self _ _ _)))) (by exact le_b rfl) ?_
  refine qV_aload_n (pc := 29) 0 dX2_init_29 rfl rfl ?_
  refine qV_new (pc := 30) [.null, vI 0] kX3 lk_X2_9 wb_X3 wn_X3 fs2 dX2_init_30 (le_b rfl) (by show _ ≤ 32 + 2 * B; omega) ?_
  refine qV_dup (pc := 33) dX2_init_33 rfl ?_
  refine qV_iload_n (pc := 34) 1 dX2_init_34 rfl rfl ?_
  refine qV_voI (pc := 35) (c_Row_init (r := p + 5) (N := B) (fun _ => 0) hq hB (hU_self _ _ _) rfl) nX3_init lk_X2_11 dX2_init_35 ⟨le_b rfl, le_b rfl⟩ ⟨le_b rfl, by show _ ≤ 32 + 2 * B; omega⟩ rfl (le_b rfl) ?_
  rintro h4 _ ⟨r4, f4, rfl⟩
  have o4 : h4 p = some (oB 2 [.ref (p + 3), .null, .ref (p + 1), vI 0]) := (f4 p (by omega)).trans ((hU_ne (by omega)).trans (hU_self _ _ _))
  have g3 : Fr h3 h4 p (p + 7) := ((Fr.hU (lo := p) (hi := p + 7) (by omega) (by omega)).trans (Fr.hU (by omega) (by omega))).trans (f4.wide (by omega) (by omega))
  have r2'' : Row h4 (p + 1) 26 0 (fun _ => -9) := ((r2'.fr (Fr.hU (lo := p) (hi := p + 1) (by omega) (by omega)) (by omega)).fr (Fr.hU (lo := p + 5) (hi := p + 6) (by omega) (by omega)) (by omega)).fr f4 (by omega)
  have r3' : Row h4 (p + 3) B 0 (fun _ => 0) := ((r3.fr (Fr.hU (lo := p) (hi := p + 1) (by omega) (by omega)) (by omega)).fr (Fr.hU (lo := p + 5) (hi := p + 6) (by omega) (by omega)) (by omega)).fr f4 (by omega)
  refine qV_putF (pc := 38) kX2 1 (le_b rfl) lk_X2_23 rfl rfl rfl rfl rfl rfl dX2_init_38 (by first | assumption | exact hU_self _ _ _ | (refine (hU_ne (by omega)).trans ?_; first | assumption | exact hU_self _ _ _ | (refine (hU_ne (by omega)).trans ?_; first | assumption | exact hU_self _ _ _ | (refine (hU_ne (by omega)).trans ?_; first | assumption | exact hU_self _ _ _)))) (by exact le_b rfl) ?_
  refine qV_iconst (pc := 41) dX2_init_41 ?_
  refine qV_istore_n (pc := 42) 2 dX2_init_42 rfl (le_b rfl) (le_b rfl) rfl ?_
  have f5 : ∀ e : qE, Fr h4 (hU h4 p e) p (p + 1) := fun e => Fr.hU (by omega) (by omega)
  exact init_loop (le_b rfl) (by omega) 26 0 _ _ (by omega) (by omega) rfl (hU_self _ _ _) (r3'.fr (f5 _) (by omega)) (r4.fr (f5 _) (by omega)) (r2''.fr (f5 _) (by omega)) (((((Fr.hU (lo := p) (hi := p + 7) (by omega) (by omega)).trans (f2.wide (by omega) (by omega))).trans g2).trans g3).trans ((f5 _).wide (by omega) (by omega)))
set_option maxRecDepth 100000 in
set_option maxHeartbeats 4000000 in
theorem cbegin_loop {k : Nat} (hP : Page h p B P) (hk : k ≤ P.2.2.1) : ∀ (m i : Nat) (q : Int), k - i = m → i ≤ k → q = i → qVM l mX2_chunkBegin 0 0 h sz (fun v h' sz' => v = some (vI (csum P.2.2.2.1 k)) ∧ h' = h ∧ sz' = sz) 0 0 h sz 4 [some (.ref p), some (vI k), some (vI (csum P.2.2.2.1 i)), some (vI q)] [] := by
  obtain ⟨ho, -, hc, -⟩ := hP
  have hle := hc.le
  intro m
  induction m with
  | zero =>
    intro i q hm hi hq
    obtain rfl : i = k := by omega
    refine qV_iload_n (pc := 4) 3 dX2_chunkBegin_4 rfl rfl ?_
    refine qV_iload_n (pc := 5) 1 dX2_chunkBegin_5 rfl rfl ?_
    refine qV_icmp_ge (pc := 6) 37 dX2_chunkBegin_6 (by decide) ⟨by omega, by omega⟩ ⟨by omega, by omega⟩ (fun c6 => ?_) (fun c6 => ?_)
    · refine qV_iload_n (pc := 37) 2 dX2_chunkBegin_37 rfl rfl ?_
      refine qV_iret (pc := 38) dX2_chunkBegin_38 rfl (le_b rfl) (le_b rfl) ?_
      exact ⟨rfl, rfl, rfl⟩
    · exfalso; omega
  | succ m ih =>
    intro i q hm hi hq
    refine qV_iload_n (pc := 4) 3 dX2_chunkBegin_4 rfl rfl ?_
    refine qV_iload_n (pc := 5) 1 dX2_chunkBegin_5 rfl rfl ?_
    refine qV_icmp_ge (pc := 6) 37 dX2_chunkBegin_6 (by decide) ⟨by omega, by omega⟩ ⟨by omega, by omega⟩ (fun c6 => ?_) (fun c6 => ?_)
    · exfalso; omega
    · refine qV_iload_n (pc := 9) 3 dX2_chunkBegin_9 rfl rfl ?_
      refine qV_aload_n (pc := 10) 0 dX2_chunkBegin_10 rfl rfl ?_
      refine qV_get (pc := 11) kX2 1 (le_b rfl) lk_X2_23 rfl dX2_chunkBegin_11 (by first | assumption | exact hU_self _ _ _ | (refine (hU_ne (by omega)).trans ?_; first | assumption | exact hU_self _ _ _ | (refine (hU_ne (by omega)).trans ?_; first | assumption | exact hU_self _ _ _ | (refine (hU_ne (by omega)).trans ?_; first | assumption | exact hU_self _ _ _)))) (by exact rfl) ?_
      refine qV_rdV (pc := 14) (c_size hc) nX3_size kX3 lk_X2_65 dX2_chunkBegin_14 hc.obj ⟨le_b rfl, le_b rfl⟩ ⟨le_b rfl, le_b rfl⟩ rfl (le_b rfl) ?_
      refine qV_icmp_ge (pc := 17) 37 dX2_chunkBegin_17 (by decide) ⟨by omega, by omega⟩ ⟨by omega, by omega⟩ (fun c17 => ?_) (fun c17 => ?_)
      · exfalso; omega
      · refine qV_iload_n (pc := 20) 2 dX2_chunkBegin_20 rfl rfl ?_
        refine qV_aload_n (pc := 21) 0 dX2_chunkBegin_21 rfl rfl ?_
        refine qV_get (pc := 22) kX2 1 (le_b rfl) lk_X2_23 rfl dX2_chunkBegin_22 (by first | assumption | exact hU_self _ _ _ | (refine (hU_ne (by omega)).trans ?_; first | assumption | exact hU_self _ _ _ | (refine (hU_ne (by omega)).trans ?_; first | assumption | exact hU_self _ _ _ | (refine (hU_ne (by omega)).trans ?_; first | assumption | exact hU_self _ _ _)))) (by exact rfl) ?_
        refine qV_iload_n (pc := 25) 3 dX2_chunkBegin_25 rfl rfl ?_
        refine qV_rdV (pc := 26) (c_gt hc hq (by omega)) nX3_get kX3 lk_X2_54 dX2_chunkBegin_26 hc.obj ⟨le_b rfl, le_b rfl⟩ ⟨le_b rfl, le_b rfl⟩ rfl (le_b rfl) ?_
        refine qV_iadd (pc := 29) dX2_chunkBegin_29 ?_
        refine qV_istore_n (pc := 30) 2 dX2_chunkBegin_30 rfl (le_b rfl) (le_b rfl) rfl ?_
        refine qV_iinc (pc := 31) 3 dX2_chunkBegin_31 rfl (le_b rfl) (le_b rfl) rfl ?_
        refine qV_goto (pc := 34) 4 dX2_chunkBegin_34 (by decide) ?_
        exact ih (i + 1) _ (by omega) (by omega) (by omega)
set_option maxRecDepth 100000 in
set_option maxHeartbeats 4000000 in
theorem c_chunkBegin {q : Int} {k : Nat} (hP : Page h p B P) (hq : q = k) (hk : k ≤ P.2.2.1) : qRd l mX2_chunkBegin [.ref p, vI q] h sz (vI (csum P.2.2.2.1 k)) := by
  subst hq
  refine qC.of 2 (by decide) (le_b rfl) ?_
  refine qV_iconst (pc := 0) dX2_chunkBegin_0 ?_
  refine qV_istore_n (pc := 1) 2 dX2_chunkBegin_1 rfl (le_b rfl) (le_b rfl) rfl ?_
  refine qV_iconst (pc := 2) dX2_chunkBegin_2 ?_
  refine qV_istore_n (pc := 3) 3 dX2_chunkBegin_3 rfl (le_b rfl) (le_b rfl) rfl ?_
  exact cbegin_loop hP hk k 0 _ (by omega) (by omega) rfl
set_option maxRecDepth 100000 in
set_option maxHeartbeats 4000000 in
theorem c_markPlace {q : Int} {i : Nat} (hP : Page h p B P) (hq : q = 97 + (i : Int)) (hi : i < 26) : qRd l mX2_markPlace [.ref p, vI q] h sz (vI (P.2.2.2.2.1 i)) := by
  obtain ⟨ho, -, -, hm⟩ := hP
  refine qC.of 0 (by decide) (le_b rfl) ?_
  refine qV_aload_n (pc := 0) 0 dX2_markPlace_0 rfl rfl ?_
  refine qV_get (pc := 1) kX2 2 (le_b rfl) lk_X2_14 rfl dX2_markPlace_1 (by first | assumption | exact hU_self _ _ _ | (refine (hU_ne (by omega)).trans ?_; first | assumption | exact hU_self _ _ _ | (refine (hU_ne (by omega)).trans ?_; first | assumption | exact hU_self _ _ _ | (refine (hU_ne (by omega)).trans ?_; first | assumption | exact hU_self _ _ _)))) (by exact rfl) ?_
  refine qV_iload_n (pc := 4) 1 dX2_markPlace_4 rfl rfl ?_
  refine qV_bipush (pc := 5) dX2_markPlace_5 rfl ?_
  refine qV_isub (pc := 7) dX2_markPlace_7 ?_
  refine qV_rdV (pc := 8) (c_gt hm (by omega) hi) nX3_get kX3 lk_X2_54 dX2_markPlace_8 hm.obj ⟨le_b rfl, le_b rfl⟩ ⟨le_b rfl, le_b rfl⟩ rfl (le_b rfl) ?_
  refine qV_iret (pc := 11) dX2_markPlace_11 rfl (le_b rfl) (le_b rfl) ?_
  exact ⟨rfl, rfl, rfl⟩
set_option maxRecDepth 100000 in
set_option maxHeartbeats 4000000 in
theorem c_putMark {q v : Int} {i : Nat} (hP : Page h p B P) (hq : q = 97 + (i : Int)) (hi : i < 26) : qVo l mX2_putMark 0 0 [.ref p, vI q, vI v] h sz (fun h' sz' => Page h' p B (P.1, P.2.1, P.2.2.1, P.2.2.2.1, va_up P.2.2.2.2.1 i v, P.2.2.2.2.2) ∧ Fr h h' p (p + 7) ∧ sz' = sz) := by
  obtain ⟨ho, hb, hc, hm⟩ := hP
  refine qC.of 0 (by decide) (le_b rfl) ?_
  refine qV_aload_n (pc := 0) 0 dX2_putMark_0 rfl rfl ?_
  refine qV_get (pc := 1) kX2 2 (le_b rfl) lk_X2_14 rfl dX2_putMark_1 (by first | assumption | exact hU_self _ _ _ | (refine (hU_ne (by omega)).trans ?_; first | assumption | exact hU_self _ _ _ | (refine (hU_ne (by omega)).trans ?_; first | assumption | exact hU_self _ _ _ | (refine (hU_ne (by omega)).trans ?_; first | assumption | exact hU_self _ _ _)))) (by exact rfl) ?_
  refine qV_iload_n (pc := 4) 1 dX2_putMark_4 rfl rfl ?_
  refine qV_bipush (pc := 5) dX2_putMark_5 rfl ?_
  refine qV_isub (pc := 7) dX2_putMark_7 ?_
  refine qV_iload_n (pc := 8) 2 dX2_putMark_8 rfl rfl ?_
  refine qV_voV (pc := 9) (c_set hm (i := i) (by omega) hi) nX3_set kX3 lk_X2_62 dX2_putMark_9 hm.obj ⟨le_b rfl, le_b rfl⟩ ⟨le_b rfl, le_b rfl⟩ rfl (le_b rfl) ?_
  rintro h2 _ ⟨hm2, hf2, rfl⟩
  refine qV_vret (pc := 12) dX2_putMark_12 rfl (le_b rfl) (le_b rfl) ?_
  exact ⟨rfl, ⟨(hf2 p (by omega)).trans ho, hb.fr hf2 (by omega), hc.fr hf2 (by omega), hm2⟩, hf2.wide (by omega) (by omega), rfl⟩
set_option maxRecDepth 100000 in
set_option maxHeartbeats 4000000 in
theorem mset_loop (hP : Page h p B P) (hmk : ∀ j, j < 26 → -9 ≤ P.2.2.2.2.1 j ∧ P.2.2.2.2.1 j ≤ 5000) : ∀ (m i : Nat) (q w : Int), 26 - i = m → i ≤ 26 → q = i → w = mcnt P.2.2.2.2.1 i → qVM l mX2_marksSet 0 0 h sz (fun v h' sz' => v = some (vI (mcnt P.2.2.2.2.1 26)) ∧ h' = h ∧ sz' = sz) 0 0 h sz 4 [some (.ref p), some (vI w), some (vI q)] [] := by
  obtain ⟨ho, -, -, hr⟩ := hP
  intro m
  induction m with
  | zero =>
    intro i q w hm hi hq hw
    obtain rfl : i = 26 := by omega
    subst hw
    refine qV_iload_n (pc := 4) 2 dX2_marksSet_4 rfl rfl ?_
    refine qV_bipush (pc := 5) dX2_marksSet_5 rfl ?_
    refine qV_icmp_ge (pc := 7) 32 dX2_marksSet_7 (by decide) ⟨by omega, by omega⟩ ⟨by omega, by omega⟩ (fun c7 => ?_) (fun c7 => ?_)
    · refine qV_iload_n (pc := 32) 1 dX2_marksSet_32 rfl rfl ?_
      refine qV_iret (pc := 33) dX2_marksSet_33 rfl (le_b rfl) (le_b rfl) ?_
      exact ⟨rfl, rfl, rfl⟩
    · exfalso; omega
  | succ m ih =>
    intro i q w hm hi hq hw
    have b := hmk i (by omega)
    refine qV_iload_n (pc := 4) 2 dX2_marksSet_4 rfl rfl ?_
    refine qV_bipush (pc := 5) dX2_marksSet_5 rfl ?_
    refine qV_icmp_ge (pc := 7) 32 dX2_marksSet_7 (by decide) ⟨by omega, by omega⟩ ⟨by omega, by omega⟩ (fun c7 => ?_) (fun c7 => ?_)
    · exfalso; omega
    · refine qV_aload_n (pc := 10) 0 dX2_marksSet_10 rfl rfl ?_
      refine qV_get (pc := 11) kX2 2 (le_b rfl) lk_X2_14 rfl dX2_marksSet_11 (by first | assumption | exact hU_self _ _ _ | (refine (hU_ne (by omega)).trans ?_; first | assumption | exact hU_self _ _ _ | (refine (hU_ne (by omega)).trans ?_; first | assumption | exact hU_self _ _ _ | (refine (hU_ne (by omega)).trans ?_; first | assumption | exact hU_self _ _ _)))) (by exact rfl) ?_
      refine qV_iload_n (pc := 14) 2 dX2_marksSet_14 rfl rfl ?_
      refine qV_rdV (pc := 15) (c_gt hr hq (by omega)) nX3_get kX3 lk_X2_54 dX2_marksSet_15 hr.obj ⟨le_b rfl, le_b rfl⟩ ⟨le_b rfl, le_b rfl⟩ rfl (le_b rfl) ?_
      refine qV_bipush (pc := 18) dX2_marksSet_18 rfl ?_
      refine qV_icmp_eq (pc := 20) 26 dX2_marksSet_20 (by decide) ⟨by omega, by omega⟩ ⟨by omega, by omega⟩ (fun c20 => ?_) (fun c20 => ?_)
      · refine qV_iinc (pc := 26) 2 dX2_marksSet_26 rfl (le_b rfl) (le_b rfl) rfl ?_
        refine qV_goto (pc := 29) 4 dX2_marksSet_29 (by decide) ?_
        first
        | exact ih (i + 1) _ _ (by omega) (by omega) (by omega) (by simp only [mcnt]; rw [if_pos c20]; omega)
        | exact ih (i + 1) _ _ (by omega) (by omega) (by omega) (by simp only [mcnt]; rw [if_neg c20]; omega)
      · refine qV_iinc (pc := 23) 1 dX2_marksSet_23 rfl (le_b rfl) (le_b rfl) rfl ?_
        refine qV_iinc (pc := 26) 2 dX2_marksSet_26 rfl (le_b rfl) (le_b rfl) rfl ?_
        refine qV_goto (pc := 29) 4 dX2_marksSet_29 (by decide) ?_
        first
        | exact ih (i + 1) _ _ (by omega) (by omega) (by omega) (by simp only [mcnt]; rw [if_pos c20]; omega)
        | exact ih (i + 1) _ _ (by omega) (by omega) (by omega) (by simp only [mcnt]; rw [if_neg c20]; omega)
set_option maxRecDepth 100000 in
set_option maxHeartbeats 4000000 in
theorem c_marksSet (hP : Page h p B P) (hmk : ∀ j, j < 26 → -9 ≤ P.2.2.2.2.1 j ∧ P.2.2.2.2.1 j ≤ 5000) : qRd l mX2_marksSet [.ref p] h sz (vI (mcnt P.2.2.2.2.1 26)) := by
  refine qC.of 2 (by decide) (le_b rfl) ?_
  refine qV_iconst (pc := 0) dX2_marksSet_0 ?_
  refine qV_istore_n (pc := 1) 1 dX2_marksSet_1 rfl (le_b rfl) (le_b rfl) rfl ?_
  refine qV_iconst (pc := 2) dX2_marksSet_2 ?_
  refine qV_istore_n (pc := 3) 2 dX2_marksSet_3 rfl (le_b rfl) (le_b rfl) rfl ?_
  exact mset_loop hP hmk 26 0 _ _ (by omega) (by omega) rfl rfl
set_option maxRecDepth 100000 in
set_option maxHeartbeats 4000000 in
theorem mfrom_loop {x : Int} (hP : Page h p B P) (hmk : ∀ j, j < 26 → -9 ≤ P.2.2.2.2.1 j ∧ P.2.2.2.2.1 j ≤ 5000) (hx : 0 ≤ x ∧ x ≤ 5000) : ∀ (m i : Nat) (q w z : Int) (x5 : Option Value), 26 - i = m → i ≤ 26 → q = i → w = (mfr P.2.2.2.2.1 x i).1 → z = (mfr P.2.2.2.2.1 x i).2 → qVM l mX2_markFrom 0 0 h sz (fun v h' sz' => v = some (vI (mfr P.2.2.2.2.1 x 26).1) ∧ h' = h ∧ sz' = sz) 0 0 h sz 8 [some (.ref p), some (vI x), some (vI w), some (vI z), some (vI q), x5] [] := by
  obtain ⟨ho, -, -, hr⟩ := hP
  intro m
  induction m with
  | zero =>
    intro i q w z x5 hm hi hq hw hz
    obtain rfl : i = 26 := by omega
    subst hw
    refine qV_iload (pc := 8) 4 dX2_markFrom_8 rfl ?_
    refine qV_bipush (pc := 10) dX2_markFrom_10 rfl ?_
    refine qV_icmp_ge (pc := 12) 59 dX2_markFrom_12 (by decide) ⟨by omega, by omega⟩ ⟨by omega, by omega⟩ (fun c12 => ?_) (fun c12 => ?_)
    · refine qV_iload_n (pc := 59) 2 dX2_markFrom_59 rfl rfl ?_
      refine qV_iret (pc := 60) dX2_markFrom_60 rfl (le_b rfl) (le_b rfl) ?_
      exact ⟨rfl, rfl, rfl⟩
    · exfalso; omega
  | succ m ih =>
    intro i q w z x5 hm hi hq hw hz
    have b := hmk i (by omega)
    have b2 := mfr_in (mk := P.2.2.2.2.1) (x := x) (j := i) (fun j hj => hmk j (by omega))
    refine qV_iload (pc := 8) 4 dX2_markFrom_8 rfl ?_
    refine qV_bipush (pc := 10) dX2_markFrom_10 rfl ?_
    refine qV_icmp_ge (pc := 12) 59 dX2_markFrom_12 (by decide) ⟨by omega, by omega⟩ ⟨by omega, by omega⟩ (fun c12 => ?_) (fun c12 => ?_)
    · exfalso; omega
    · refine qV_aload_n (pc := 15) 0 dX2_markFrom_15 rfl rfl ?_
      refine qV_get (pc := 16) kX2 2 (le_b rfl) lk_X2_14 rfl dX2_markFrom_16 (by first | assumption | exact hU_self _ _ _ | (refine (hU_ne (by omega)).trans ?_; first | assumption | exact hU_self _ _ _ | (refine (hU_ne (by omega)).trans ?_; first | assumption | exact hU_self _ _ _ | (refine (hU_ne (by omega)).trans ?_; first | assumption | exact hU_self _ _ _)))) (by exact rfl) ?_
      refine qV_iload (pc := 19) 4 dX2_markFrom_19 rfl ?_
      refine qV_rdV (pc := 21) (c_gt hr hq (by omega)) nX3_get kX3 lk_X2_54 dX2_markFrom_21 hr.obj ⟨le_b rfl, le_b rfl⟩ ⟨le_b rfl, le_b rfl⟩ rfl (le_b rfl) ?_
      refine qV_istore (pc := 24) 5 dX2_markFrom_24 (le_b rfl) (le_b rfl) rfl ?_
      refine qV_iload (pc := 26) 5 dX2_markFrom_26 rfl ?_
      refine qV_iload_n (pc := 28) 1 dX2_markFrom_28 rfl rfl ?_
      refine qV_icmp_lt (pc := 29) 53 dX2_markFrom_29 (by decide) ⟨by omega, by omega⟩ ⟨by omega, by omega⟩ (fun c29 => ?_) (fun c29 => ?_)
      · refine qV_iinc (pc := 53) 4 dX2_markFrom_53 rfl (le_b rfl) (le_b rfl) rfl ?_
        refine qV_goto (pc := 56) 8 dX2_markFrom_56 (by decide) ?_
        first
        | exact ih (i + 1) _ _ _ _ (by omega) (by omega) (by omega) (by simp only [mfr]; rw [if_neg (by omega)]; exact hw) (by simp only [mfr]; rw [if_neg (by omega)]; exact hz)
        | exact ih (i + 1) _ _ _ _ (by omega) (by omega) (by omega) (by simp only [mfr]; rw [if_pos (by omega)]; rw [hq]) (by simp only [mfr]; rw [if_pos (by omega)])
      · refine qV_iload_n (pc := 32) 2 dX2_markFrom_32 rfl rfl ?_
        refine qV_bipush (pc := 33) dX2_markFrom_33 rfl ?_
        refine qV_icmp_eq (pc := 35) 44 dX2_markFrom_35 (by decide) ⟨by omega, by omega⟩ ⟨by omega, by omega⟩ (fun c35 => ?_) (fun c35 => ?_)
        · refine qV_bipush (pc := 44) dX2_markFrom_44 rfl ?_
          refine qV_iload (pc := 46) 4 dX2_markFrom_46 rfl ?_
          refine qV_iadd (pc := 48) dX2_markFrom_48 ?_
          refine qV_istore_n (pc := 49) 2 dX2_markFrom_49 rfl (le_b rfl) (le_b rfl) rfl ?_
          refine qV_iload (pc := 50) 5 dX2_markFrom_50 rfl ?_
          refine qV_istore_n (pc := 52) 3 dX2_markFrom_52 rfl (le_b rfl) (le_b rfl) rfl ?_
          refine qV_iinc (pc := 53) 4 dX2_markFrom_53 rfl (le_b rfl) (le_b rfl) rfl ?_
          refine qV_goto (pc := 56) 8 dX2_markFrom_56 (by decide) ?_
          first
          | exact ih (i + 1) _ _ _ _ (by omega) (by omega) (by omega) (by simp only [mfr]; rw [if_neg (by omega)]; exact hw) (by simp only [mfr]; rw [if_neg (by omega)]; exact hz)
          | exact ih (i + 1) _ _ _ _ (by omega) (by omega) (by omega) (by simp only [mfr]; rw [if_pos (by omega)]; rw [hq]) (by simp only [mfr]; rw [if_pos (by omega)])
        · refine qV_iload (pc := 38) 5 dX2_markFrom_38 rfl ?_
          refine qV_iload_n (pc := 40) 3 dX2_markFrom_40 rfl rfl ?_
          refine qV_icmp_ge (pc := 41) 53 dX2_markFrom_41 (by decide) ⟨by omega, by omega⟩ ⟨by omega, by omega⟩ (fun c41 => ?_) (fun c41 => ?_)
          · refine qV_iinc (pc := 53) 4 dX2_markFrom_53 rfl (le_b rfl) (le_b rfl) rfl ?_
            refine qV_goto (pc := 56) 8 dX2_markFrom_56 (by decide) ?_
            first
            | exact ih (i + 1) _ _ _ _ (by omega) (by omega) (by omega) (by simp only [mfr]; rw [if_neg (by omega)]; exact hw) (by simp only [mfr]; rw [if_neg (by omega)]; exact hz)
            | exact ih (i + 1) _ _ _ _ (by omega) (by omega) (by omega) (by simp only [mfr]; rw [if_pos (by omega)]; rw [hq]) (by simp only [mfr]; rw [if_pos (by omega)])
          · refine qV_bipush (pc := 44) dX2_markFrom_44 rfl ?_
            refine qV_iload (pc := 46) 4 dX2_markFrom_46 rfl ?_
            refine qV_iadd (pc := 48) dX2_markFrom_48 ?_
            refine qV_istore_n (pc := 49) 2 dX2_markFrom_49 rfl (le_b rfl) (le_b rfl) rfl ?_
            refine qV_iload (pc := 50) 5 dX2_markFrom_50 rfl ?_
            refine qV_istore_n (pc := 52) 3 dX2_markFrom_52 rfl (le_b rfl) (le_b rfl) rfl ?_
            refine qV_iinc (pc := 53) 4 dX2_markFrom_53 rfl (le_b rfl) (le_b rfl) rfl ?_
            refine qV_goto (pc := 56) 8 dX2_markFrom_56 (by decide) ?_
            first
            | exact ih (i + 1) _ _ _ _ (by omega) (by omega) (by omega) (by simp only [mfr]; rw [if_neg (by omega)]; exact hw) (by simp only [mfr]; rw [if_neg (by omega)]; exact hz)
            | exact ih (i + 1) _ _ _ _ (by omega) (by omega) (by omega) (by simp only [mfr]; rw [if_pos (by omega)]; rw [hq]) (by simp only [mfr]; rw [if_pos (by omega)])
set_option maxRecDepth 100000 in
set_option maxHeartbeats 4000000 in
theorem c_markFrom {x : Int} (hP : Page h p B P) (hmk : ∀ j, j < 26 → -9 ≤ P.2.2.2.2.1 j ∧ P.2.2.2.2.1 j ≤ 5000) (hx : 0 ≤ x ∧ x ≤ 5000) : qRd l mX2_markFrom [.ref p, vI x] h sz (vI (mfr P.2.2.2.2.1 x 26).1) := by
  refine qC.of 4 (by decide) (le_b rfl) ?_
  refine qV_bipush (pc := 0) dX2_markFrom_0 rfl ?_
  refine qV_istore_n (pc := 2) 2 dX2_markFrom_2 rfl (le_b rfl) (le_b rfl) rfl ?_
  refine qV_iconst (pc := 3) dX2_markFrom_3 ?_
  refine qV_istore_n (pc := 4) 3 dX2_markFrom_4 rfl (le_b rfl) (le_b rfl) rfl ?_
  refine qV_iconst (pc := 5) dX2_markFrom_5 ?_
  refine qV_istore (pc := 6) 4 dX2_markFrom_6 (le_b rfl) (le_b rfl) rfl ?_
  exact mfrom_loop hP hmk hx 26 0 _ _ _ _ (by omega) (by omega) rfl rfl rfl
set_option maxRecDepth 100000 in
set_option maxHeartbeats 4000000 in
theorem reads_loop {i : Nat} (hP : Page h p B P) (hT : ∀ j, j < P.1 → 0 ≤ P.2.1 j ∧ P.2.1 j ≤ 255) : ∀ (d b : Nat) (q : Int), P.1 - b = d → b ≤ P.1 → q = b → skp P.2.1 d b = skp P.2.1 (P.1 - (i + 1)) (i + 1) → qVM l mX2_readsLetter 0 0 h sz (fun v h' sz' => ∃ w, v = some w ∧ w = vI (P.2.1 i) ∧ Page h' p B (P.1, P.2.1, P.2.2.1, P.2.2.2.1, P.2.2.2.2.1, ((skp P.2.1 (P.1 - (i + 1)) (i + 1) : Nat) : Int)) ∧ Fr h h' p (p + 7) ∧ sz' = sz) 0 0 h sz 19 [some (.ref p), some (vI (P.2.1 i)), some (vI q)] [] := by
  obtain ⟨ho, hb, hc, hm⟩ := hP
  have hle := hb.le
  have hret : ∀ q : Int, q = ((skp P.2.1 (P.1 - (i + 1)) (i + 1) : Nat) : Int) → Page (hU h p (pob p q)) p B (P.1, P.2.1, P.2.2.1, P.2.2.2.1, P.2.2.2.2.1, ((skp P.2.1 (P.1 - (i + 1)) (i + 1) : Nat) : Int)) ∧ Fr h (hU h p (pob p q)) p (p + 7) := fun q hq => by
    have hf : Fr h (hU h p (pob p q)) p (p + 1) := Fr.hU (by omega) (by omega)
    exact ⟨⟨by rw [hU_self, hq], hb.fr hf (by omega), hc.fr hf (by omega), hm.fr hf (by omega)⟩, hf.wide (by omega) (by omega)⟩
  intro d
  induction d with
  | zero =>
    intro b q hd hb1 hq hs
    obtain rfl : b = P.1 := by omega
    refine qV_iload_n (pc := 19) 2 dX2_readsLetter_19 rfl rfl ?_
    refine qV_aload_n (pc := 20) 0 dX2_readsLetter_20 rfl rfl ?_
    refine qV_get (pc := 21) kX2 0 (le_b rfl) lk_X2_20 rfl dX2_readsLetter_21 (by first | assumption | exact hU_self _ _ _ | (refine (hU_ne (by omega)).trans ?_; first | assumption | exact hU_self _ _ _ | (refine (hU_ne (by omega)).trans ?_; first | assumption | exact hU_self _ _ _ | (refine (hU_ne (by omega)).trans ?_; first | assumption | exact hU_self _ _ _)))) (by exact rfl) ?_
    refine qV_rdV (pc := 24) (c_size hb) nX3_size kX3 lk_X2_65 dX2_readsLetter_24 hb.obj ⟨le_b rfl, le_b rfl⟩ ⟨le_b rfl, le_b rfl⟩ rfl (le_b rfl) ?_
    refine qV_icmp_ge (pc := 27) 50 dX2_readsLetter_27 (by decide) ⟨by omega, by omega⟩ ⟨by omega, by omega⟩ (fun c27 => ?_) (fun c27 => ?_)
    · refine qV_aload_n (pc := 50) 0 dX2_readsLetter_50 rfl rfl ?_
      refine qV_iload_n (pc := 51) 2 dX2_readsLetter_51 rfl rfl ?_
      refine qV_put (pc := 52) kX2 3 (le_b rfl) lk_X2_33 rfl rfl rfl rfl dX2_readsLetter_52 (by first | assumption | exact hU_self _ _ _ | (refine (hU_ne (by omega)).trans ?_; first | assumption | exact hU_self _ _ _ | (refine (hU_ne (by omega)).trans ?_; first | assumption | exact hU_self _ _ _ | (refine (hU_ne (by omega)).trans ?_; first | assumption | exact hU_self _ _ _)))) (by exact le_b rfl) ?_
      refine qV_iload_n (pc := 55) 1 dX2_readsLetter_55 rfl rfl ?_
      refine qV_iret (pc := 56) dX2_readsLetter_56 rfl (le_b rfl) (le_b rfl) ?_
      obtain ⟨e1, e2⟩ := hret q (by rw [← hs, hq]; rfl)
      exact ⟨_, rfl, rfl, e1, e2, rfl⟩
    · exfalso; omega
  | succ d ih =>
    intro b q hd hb1 hq hs
    have t := hT b (by omega)
    refine qV_iload_n (pc := 19) 2 dX2_readsLetter_19 rfl rfl ?_
    refine qV_aload_n (pc := 20) 0 dX2_readsLetter_20 rfl rfl ?_
    refine qV_get (pc := 21) kX2 0 (le_b rfl) lk_X2_20 rfl dX2_readsLetter_21 (by first | assumption | exact hU_self _ _ _ | (refine (hU_ne (by omega)).trans ?_; first | assumption | exact hU_self _ _ _ | (refine (hU_ne (by omega)).trans ?_; first | assumption | exact hU_self _ _ _ | (refine (hU_ne (by omega)).trans ?_; first | assumption | exact hU_self _ _ _)))) (by exact rfl) ?_
    refine qV_rdV (pc := 24) (c_size hb) nX3_size kX3 lk_X2_65 dX2_readsLetter_24 hb.obj ⟨le_b rfl, le_b rfl⟩ ⟨le_b rfl, le_b rfl⟩ rfl (le_b rfl) ?_
    refine qV_icmp_ge (pc := 27) 50 dX2_readsLetter_27 (by decide) ⟨by omega, by omega⟩ ⟨by omega, by omega⟩ (fun c27 => ?_) (fun c27 => ?_)
    · exfalso; omega
    · refine qV_aload_n (pc := 30) 0 dX2_readsLetter_30 rfl rfl ?_
      refine qV_get (pc := 31) kX2 0 (le_b rfl) lk_X2_20 rfl dX2_readsLetter_31 (by first | assumption | exact hU_self _ _ _ | (refine (hU_ne (by omega)).trans ?_; first | assumption | exact hU_self _ _ _ | (refine (hU_ne (by omega)).trans ?_; first | assumption | exact hU_self _ _ _ | (refine (hU_ne (by omega)).trans ?_; first | assumption | exact hU_self _ _ _)))) (by exact rfl) ?_
      refine qV_iload_n (pc := 34) 2 dX2_readsLetter_34 rfl rfl ?_
      refine qV_rdV (pc := 35) (c_gt hb hq (by omega)) nX3_get kX3 lk_X2_54 dX2_readsLetter_35 hb.obj ⟨le_b rfl, le_b rfl⟩ ⟨le_b rfl, le_b rfl⟩ rfl (le_b rfl) ?_
      refine qV_rdSN (pc := 38) (c_beginsLetter ⟨by omega, by omega⟩) nX6_beginsLetter lk_X2_96 dX2_readsLetter_38 ⟨le_b rfl, le_b rfl⟩ ⟨le_b rfl, le_b rfl⟩ rfl (le_b rfl) ?_
      refine qV_ifneB (pc := 41) 50 dX2_readsLetter_41 (by decide) (fun c41 => ?_) (fun c41 => ?_)
      · refine qV_aload_n (pc := 50) 0 dX2_readsLetter_50 rfl rfl ?_
        refine qV_iload_n (pc := 51) 2 dX2_readsLetter_51 rfl rfl ?_
        refine qV_put (pc := 52) kX2 3 (le_b rfl) lk_X2_33 rfl rfl rfl rfl dX2_readsLetter_52 (by first | assumption | exact hU_self _ _ _ | (refine (hU_ne (by omega)).trans ?_; first | assumption | exact hU_self _ _ _ | (refine (hU_ne (by omega)).trans ?_; first | assumption | exact hU_self _ _ _ | (refine (hU_ne (by omega)).trans ?_; first | assumption | exact hU_self _ _ _)))) (by exact le_b rfl) ?_
        refine qV_iload_n (pc := 55) 1 dX2_readsLetter_55 rfl rfl ?_
        refine qV_iret (pc := 56) dX2_readsLetter_56 rfl (le_b rfl) (le_b rfl) ?_
        obtain ⟨e1, e2⟩ := hret q (by rw [← hs, hq]; simp only [skp]; rw [if_pos c41])
        exact ⟨_, rfl, rfl, e1, e2, rfl⟩
      · refine qV_iinc (pc := 44) 2 dX2_readsLetter_44 rfl (le_b rfl) (le_b rfl) rfl ?_
        refine qV_goto (pc := 47) 19 dX2_readsLetter_47 (by decide) ?_
        exact ih (b + 1) _ (by omega) (by omega) (by omega) (by rw [← hs]; simp only [skp]; rw [if_neg c41])
set_option maxRecDepth 100000 in
set_option maxHeartbeats 4000000 in
theorem c_readsLetter {i : Nat} (hP : Page h p B P) (hT : ∀ j, j < P.1 → 0 ≤ P.2.1 j ∧ P.2.1 j ≤ 255) (hr : P.2.2.2.2.2 = i) (hi : i < P.1) : qRt l mX2_readsLetter 0 0 [.ref p] h sz (fun w h' sz' => w = vI (P.2.1 i) ∧ Page h' p B (P.1, P.2.1, P.2.2.1, P.2.2.2.1, P.2.2.2.2.1, ((skp P.2.1 (P.1 - (i + 1)) (i + 1) : Nat) : Int)) ∧ Fr h h' p (p + 7) ∧ sz' = sz) := by
  obtain ⟨ho, hb, hc, hm⟩ := id hP
  rw [hr] at ho
  refine qC.of 2 (by decide) (le_b rfl) ?_
  refine qV_aload_n (pc := 0) 0 dX2_readsLetter_0 rfl rfl ?_
  refine qV_get (pc := 1) kX2 0 (le_b rfl) lk_X2_20 rfl dX2_readsLetter_1 (by first | assumption | exact hU_self _ _ _ | (refine (hU_ne (by omega)).trans ?_; first | assumption | exact hU_self _ _ _ | (refine (hU_ne (by omega)).trans ?_; first | assumption | exact hU_self _ _ _ | (refine (hU_ne (by omega)).trans ?_; first | assumption | exact hU_self _ _ _)))) (by exact rfl) ?_
  refine qV_aload_n (pc := 4) 0 dX2_readsLetter_4 rfl rfl ?_
  refine qV_get (pc := 5) kX2 3 (le_b rfl) lk_X2_33 rfl dX2_readsLetter_5 (by first | assumption | exact hU_self _ _ _ | (refine (hU_ne (by omega)).trans ?_; first | assumption | exact hU_self _ _ _ | (refine (hU_ne (by omega)).trans ?_; first | assumption | exact hU_self _ _ _ | (refine (hU_ne (by omega)).trans ?_; first | assumption | exact hU_self _ _ _)))) (by exact rfl) ?_
  refine qV_rdV (pc := 8) (c_gt hb rfl hi) nX3_get kX3 lk_X2_54 dX2_readsLetter_8 hb.obj ⟨le_b rfl, le_b rfl⟩ ⟨le_b rfl, le_b rfl⟩ rfl (le_b rfl) ?_
  refine qV_istore_n (pc := 11) 1 dX2_readsLetter_11 rfl (le_b rfl) (le_b rfl) rfl ?_
  refine qV_aload_n (pc := 12) 0 dX2_readsLetter_12 rfl rfl ?_
  refine qV_get (pc := 13) kX2 3 (le_b rfl) lk_X2_33 rfl dX2_readsLetter_13 (by first | assumption | exact hU_self _ _ _ | (refine (hU_ne (by omega)).trans ?_; first | assumption | exact hU_self _ _ _ | (refine (hU_ne (by omega)).trans ?_; first | assumption | exact hU_self _ _ _ | (refine (hU_ne (by omega)).trans ?_; first | assumption | exact hU_self _ _ _)))) (by exact rfl) ?_
  refine qV_iconst (pc := 16) dX2_readsLetter_16 ?_
  refine qV_iadd (pc := 17) dX2_readsLetter_17 ?_
  refine qV_istore_n (pc := 18) 2 dX2_readsLetter_18 rfl (le_b rfl) (le_b rfl) rfl ?_
  exact reads_loop hP hT (P.1 - (i + 1)) (i + 1) _ rfl (by omega) (by omega) rfl
end PAGE2
