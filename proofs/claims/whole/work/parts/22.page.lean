/-! ===== Page ===== -/
def Page (h : qH) (p B : Nat) (P : PG) : Prop := h p = some (pob p P.2.2.2.2.2) ∧ Row h (p + 3) B P.1 P.2.1 ∧ Row h (p + 5) B P.2.2.1 P.2.2.2.1 ∧ Row h (p + 1) 26 26 P.2.2.2.2.1
theorem Page.fr {h h' : qH} {p B lo hi : Nat} {P : PG} (a : Page h p B P) (b : Fr h h' lo hi) (d : p + 7 ≤ lo ∨ hi ≤ p) : Page h' p B P := ⟨(b p (by omega)).trans a.1, a.2.1.fr b (by omega), a.2.2.1.fr b (by omega), a.2.2.2.fr b (by omega)⟩
section PAGE
variable {l : Launch} {h : qH} {sz p B : Nat} {P : PG}
set_option maxRecDepth 100000 in
set_option maxHeartbeats 4000000 in
theorem c_beginsLetter {b : Int} (hb : iR b) : qRd l mX6_beginsLetter [vI b] h sz (vB (b < 128 ∨ 191 < b)) := by
  obtain ⟨b1, b2⟩ := hb
  refine qC.of 0 (by decide) (le_b rfl) ?_
  refine qV_iload_n (pc := 0) 0 dX6_beginsLetter_0 rfl rfl ?_
  refine qV_sipush (pc := 1) dX6_beginsLetter_1 rfl ?_
  refine qV_icmp_lt (pc := 4) 14 dX6_beginsLetter_4 (by decide) ⟨by omega, by omega⟩ ⟨by omega, by omega⟩ (fun c4 => ?_) (fun c4 => ?_)
  · refine qV_iconst (pc := 14) dX6_beginsLetter_14 ?_
    refine qV_goto (pc := 15) 19 dX6_beginsLetter_15 (by decide) ?_
    refine qV_zret (pc := 19) dX6_beginsLetter_19 rfl (by first | exact Or.inl rfl | exact Or.inr rfl) (le_b rfl) (le_b rfl) ?_
    first | exact ⟨by rw [vB, if_pos (by omega)], rfl, rfl⟩ | exact ⟨by rw [vB, if_neg (by omega)], rfl, rfl⟩
  · refine qV_iload_n (pc := 7) 0 dX6_beginsLetter_7 rfl rfl ?_
    refine qV_sipush (pc := 8) dX6_beginsLetter_8 rfl ?_
    refine qV_icmp_le (pc := 11) 18 dX6_beginsLetter_11 (by decide) ⟨by omega, by omega⟩ ⟨by omega, by omega⟩ (fun c11 => ?_) (fun c11 => ?_)
    · refine qV_iconst (pc := 18) dX6_beginsLetter_18 ?_
      refine qV_zret (pc := 19) dX6_beginsLetter_19 rfl (by first | exact Or.inl rfl | exact Or.inr rfl) (le_b rfl) (le_b rfl) ?_
      first | exact ⟨by rw [vB, if_pos (by omega)], rfl, rfl⟩ | exact ⟨by rw [vB, if_neg (by omega)], rfl, rfl⟩
    · refine qV_iconst (pc := 14) dX6_beginsLetter_14 ?_
      refine qV_goto (pc := 15) 19 dX6_beginsLetter_15 (by decide) ?_
      refine qV_zret (pc := 19) dX6_beginsLetter_19 rfl (by first | exact Or.inl rfl | exact Or.inr rfl) (le_b rfl) (le_b rfl) ?_
      first | exact ⟨by rw [vB, if_pos (by omega)], rfl, rfl⟩ | exact ⟨by rw [vB, if_neg (by omega)], rfl, rfl⟩
set_option maxRecDepth 100000 in
set_option maxHeartbeats 4000000 in
theorem c_cellsOf {b : Int} (hb : iR b) : qRd l mX6_cellsOf [vI b] h sz (vI (hasM b 3)) := by
  obtain ⟨b1, b2⟩ := hb
  have e : hasM b 3 = (if ¬ (b < 128 ∨ 191 < b) ∨ b < 32 then 0 else if 223 < b then 2 else 1) := rfl
  refine qC.of 0 (by decide) (le_b rfl) ?_
  refine qV_iload_n (pc := 0) 0 dX6_cellsOf_0 rfl rfl ?_
  refine qV_rdS (pc := 1) (c_beginsLetter ⟨b1, b2⟩) nX6_beginsLetter lk_X6_198 dX6_cellsOf_1 ⟨le_b rfl, le_b rfl⟩ ⟨le_b rfl, le_b rfl⟩ rfl (le_b rfl) ?_
  refine qV_ifeqB (pc := 4) 13 dX6_cellsOf_4 (by decide) (fun c4 => ?_) (fun c4 => ?_)
  · refine qV_iconst (pc := 13) dX6_cellsOf_13 ?_
    refine qV_iret (pc := 14) dX6_cellsOf_14 rfl (le_b rfl) (le_b rfl) ?_
    first | exact ⟨by rw [e, if_pos (by omega)], rfl, rfl⟩ | exact ⟨by rw [e, if_neg (by omega), if_pos (by omega)], rfl, rfl⟩ | exact ⟨by rw [e, if_neg (by omega), if_neg (by omega)], rfl, rfl⟩
  · refine qV_iload_n (pc := 7) 0 dX6_cellsOf_7 rfl rfl ?_
    refine qV_bipush (pc := 8) dX6_cellsOf_8 rfl ?_
    refine qV_icmp_ge (pc := 10) 15 dX6_cellsOf_10 (by decide) ⟨by omega, by omega⟩ ⟨by omega, by omega⟩ (fun c10 => ?_) (fun c10 => ?_)
    · refine qV_iload_n (pc := 15) 0 dX6_cellsOf_15 rfl rfl ?_
      refine qV_sipush (pc := 16) dX6_cellsOf_16 rfl ?_
      refine qV_icmp_le (pc := 19) 26 dX6_cellsOf_19 (by decide) ⟨by omega, by omega⟩ ⟨by omega, by omega⟩ (fun c19 => ?_) (fun c19 => ?_)
      · refine qV_iconst (pc := 26) dX6_cellsOf_26 ?_
        refine qV_iret (pc := 27) dX6_cellsOf_27 rfl (le_b rfl) (le_b rfl) ?_
        first | exact ⟨by rw [e, if_pos (by omega)], rfl, rfl⟩ | exact ⟨by rw [e, if_neg (by omega), if_pos (by omega)], rfl, rfl⟩ | exact ⟨by rw [e, if_neg (by omega), if_neg (by omega)], rfl, rfl⟩
      · refine qV_iconst (pc := 22) dX6_cellsOf_22 ?_
        refine qV_goto (pc := 23) 27 dX6_cellsOf_23 (by decide) ?_
        refine qV_iret (pc := 27) dX6_cellsOf_27 rfl (le_b rfl) (le_b rfl) ?_
        first | exact ⟨by rw [e, if_pos (by omega)], rfl, rfl⟩ | exact ⟨by rw [e, if_neg (by omega), if_pos (by omega)], rfl, rfl⟩ | exact ⟨by rw [e, if_neg (by omega), if_neg (by omega)], rfl, rfl⟩
    · refine qV_iconst (pc := 13) dX6_cellsOf_13 ?_
      refine qV_iret (pc := 14) dX6_cellsOf_14 rfl (le_b rfl) (le_b rfl) ?_
      first | exact ⟨by rw [e, if_pos (by omega)], rfl, rfl⟩ | exact ⟨by rw [e, if_neg (by omega), if_pos (by omega)], rfl, rfl⟩ | exact ⟨by rw [e, if_neg (by omega), if_neg (by omega)], rfl, rfl⟩
set_option maxRecDepth 100000 in
set_option maxHeartbeats 4000000 in
theorem c_mvT {a x k : Int} (ha : -9 ≤ a ∧ a ≤ 5000) (hx : 0 ≤ x ∧ x ≤ 5000) (hk : 0 ≤ k ∧ k ≤ 5000) : qRd l mX2_placeAfterTaking [vI a, vI x, vI k] h sz (vI (mvT a x k)) := by
  refine qC.of 0 (by decide) (le_b rfl) ?_
  refine qV_iload_n (pc := 0) 0 dX2_placeAfterTaking_0 rfl rfl ?_
  refine qV_iload_n (pc := 1) 1 dX2_placeAfterTaking_1 rfl rfl ?_
  refine qV_icmp_gt (pc := 2) 9 dX2_placeAfterTaking_2 (by decide) ⟨by omega, by omega⟩ ⟨by omega, by omega⟩ (fun c2 => ?_) (fun c2 => ?_)
  · refine qV_iload_n (pc := 9) 1 dX2_placeAfterTaking_9 rfl rfl ?_
    refine qV_iload_n (pc := 10) 0 dX2_placeAfterTaking_10 rfl rfl ?_
    refine qV_iload_n (pc := 11) 2 dX2_placeAfterTaking_11 rfl rfl ?_
    refine qV_isub (pc := 12) dX2_placeAfterTaking_12 ?_
    refine qV_max (pc := 13) lk_X2_78 dX2_placeAfterTaking_13 ⟨by omega, by omega⟩ ⟨by omega, by omega⟩ (le_b rfl) ⟨le_b rfl, le_b rfl⟩ (le_b rfl) ?_
    refine qV_iret (pc := 16) dX2_placeAfterTaking_16 rfl (le_b rfl) (le_b rfl) ?_
    first | exact ⟨by rw [mvT, if_pos (by omega)], rfl, rfl⟩ | exact ⟨by rw [mvT, if_neg (by omega)], rfl, rfl⟩
  · refine qV_iload_n (pc := 5) 0 dX2_placeAfterTaking_5 rfl rfl ?_
    refine qV_goto (pc := 6) 16 dX2_placeAfterTaking_6 (by decide) ?_
    refine qV_iret (pc := 16) dX2_placeAfterTaking_16 rfl (le_b rfl) (le_b rfl) ?_
    first | exact ⟨by rw [mvT, if_pos (by omega)], rfl, rfl⟩ | exact ⟨by rw [mvT, if_neg (by omega)], rfl, rfl⟩
set_option maxRecDepth 100000 in
set_option maxHeartbeats 4000000 in
theorem c_mvP {a x k : Int} (ha : -9 ≤ a ∧ a ≤ 5000) (hx : 0 ≤ x ∧ x ≤ 5000) (hk : 0 ≤ k ∧ k ≤ 5000) : qRd l mX2_placeAfterPutting [vI a, vI x, vI k] h sz (vI (mvP a x k)) := by
  refine qC.of 0 (by decide) (le_b rfl) ?_
  refine qV_iload_n (pc := 0) 0 dX2_placeAfterPutting_0 rfl rfl ?_
  refine qV_iload_n (pc := 1) 1 dX2_placeAfterPutting_1 rfl rfl ?_
  refine qV_icmp_gt (pc := 2) 9 dX2_placeAfterPutting_2 (by decide) ⟨by omega, by omega⟩ ⟨by omega, by omega⟩ (fun c2 => ?_) (fun c2 => ?_)
  · refine qV_iload_n (pc := 9) 0 dX2_placeAfterPutting_9 rfl rfl ?_
    refine qV_iload_n (pc := 10) 2 dX2_placeAfterPutting_10 rfl rfl ?_
    refine qV_iadd (pc := 11) dX2_placeAfterPutting_11 ?_
    refine qV_iret (pc := 12) dX2_placeAfterPutting_12 rfl (le_b rfl) (le_b rfl) ?_
    first | exact ⟨by rw [mvP, if_pos (by omega)], rfl, rfl⟩ | exact ⟨by rw [mvP, if_neg (by omega)], rfl, rfl⟩
  · refine qV_iload_n (pc := 5) 0 dX2_placeAfterPutting_5 rfl rfl ?_
    refine qV_goto (pc := 6) 12 dX2_placeAfterPutting_6 (by decide) ?_
    refine qV_iret (pc := 12) dX2_placeAfterPutting_12 rfl (le_b rfl) (le_b rfl) ?_
    first | exact ⟨by rw [mvP, if_pos (by omega)], rfl, rfl⟩ | exact ⟨by rw [mvP, if_neg (by omega)], rfl, rfl⟩
set_option maxRecDepth 100000 in
set_option maxHeartbeats 4000000 in
theorem take_marks {x k rd : Int} {n c : Nat} {T C mk : Nat → Int} (hx : 0 ≤ x ∧ x ≤ 5000) (hk : 0 ≤ k ∧ k ≤ 5000) (hrd : -9 ≤ rd ∧ rd ≤ 5000) (hmk : ∀ j, j < 26 → -9 ≤ mk j ∧ mk j ≤ 5000) : ∀ (m i : Nat) (q : Int) (h1 : qH), 26 - i = m → i ≤ 26 → q = i → h1 p = some (pob p rd) → Row h1 (p + 3) B n T → Row h1 (p + 5) B c C → Row h1 (p + 1) 26 26 (fun j => if j < i then mvT (mk j) x k else mk j) → Fr h h1 p (p + 7) → qVM l mX2_takesOut 0 0 h sz (fun v h' sz' => v = none ∧ Page h' p B (n, T, c, C, (fun j => mvT (mk j) x k), mvT rd x k) ∧ Fr h h' p (p + 7) ∧ sz' = sz) 0 0 h1 sz 27 [some (.ref p), some (vI x), some (vI k), some (vI q)] [] := by
  intro m
  induction m with
  | zero =>
    intro i q h1 hm hi hq ho hb hc hr hf
    obtain rfl : i = 26 := by omega
    refine qV_iload_n (pc := 27) 3 dX2_takesOut_27 rfl rfl ?_
    refine qV_bipush (pc := 28) dX2_takesOut_28 rfl ?_
    refine qV_icmp_ge (pc := 30) 60 dX2_takesOut_30 (by decide) ⟨by omega, by omega⟩ ⟨by omega, by omega⟩ (fun c30 => ?_) (fun c30 => ?_)
    · refine qV_aload_n (pc := 60) 0 dX2_takesOut_60 rfl rfl ?_
      refine qV_aload_n (pc := 61) 0 dX2_takesOut_61 rfl rfl ?_
      refine qV_get (pc := 62) kX2 3 (le_b rfl) lk_X2_33 rfl dX2_takesOut_62 (by first | assumption | exact hU_self _ _ _ | (refine (hU_ne (by omega)).trans ?_; first | assumption | exact hU_self _ _ _ | (refine (hU_ne (by omega)).trans ?_; first | assumption | exact hU_self _ _ _ | (refine (hU_ne (by omega)).trans ?_; first | assumption | exact hU_self _ _ _)))) (by exact rfl) ?_
      refine qV_iload_n (pc := 65) 1 dX2_takesOut_65 rfl rfl ?_
      refine qV_iload_n (pc := 66) 2 dX2_takesOut_66 rfl rfl ?_
      refine qV_rdS (pc := 67) (c_mvT hrd hx hk) nX2_placeAfterTaking lk_X2_58 dX2_takesOut_67 ⟨le_b rfl, le_b rfl⟩ ⟨le_b rfl, le_b rfl⟩ rfl (le_b rfl) ?_
      refine qV_put (pc := 70) kX2 3 (le_b rfl) lk_X2_33 rfl rfl rfl rfl dX2_takesOut_70 (by first | assumption | exact hU_self _ _ _ | (refine (hU_ne (by omega)).trans ?_; first | assumption | exact hU_self _ _ _ | (refine (hU_ne (by omega)).trans ?_; first | assumption | exact hU_self _ _ _ | (refine (hU_ne (by omega)).trans ?_; first | assumption | exact hU_self _ _ _)))) (by exact le_b rfl) ?_
      refine qV_vret (pc := 73) dX2_takesOut_73 rfl (le_b rfl) (le_b rfl) ?_
      have hf2 : Fr h1 (hU h1 p (pob p (mvT rd x k))) p (p + 1) := Fr.hU (by omega) (by omega)
      exact ⟨rfl, ⟨hU_self _ _ _, hb.fr hf2 (by omega), hc.fr hf2 (by omega), (hr.congr (fun j hj => if_pos hj)).fr hf2 (by omega)⟩, hf.trans (hf2.wide (by omega) (by omega)), rfl⟩
    · exfalso; omega
  | succ m ih =>
    intro i q h1 hm hi hq ho hb hc hr hf
    have hmi := hmk i (by omega)
    have e0 : (if i < i then mvT (mk i) x k else mk i) = mk i := if_neg (by omega)
    refine qV_iload_n (pc := 27) 3 dX2_takesOut_27 rfl rfl ?_
    refine qV_bipush (pc := 28) dX2_takesOut_28 rfl ?_
    refine qV_icmp_ge (pc := 30) 60 dX2_takesOut_30 (by decide) ⟨by omega, by omega⟩ ⟨by omega, by omega⟩ (fun c30 => ?_) (fun c30 => ?_)
    · exfalso; omega
    · refine qV_aload_n (pc := 33) 0 dX2_takesOut_33 rfl rfl ?_
      refine qV_get (pc := 34) kX2 2 (le_b rfl) lk_X2_14 rfl dX2_takesOut_34 (by first | assumption | exact hU_self _ _ _ | (refine (hU_ne (by omega)).trans ?_; first | assumption | exact hU_self _ _ _ | (refine (hU_ne (by omega)).trans ?_; first | assumption | exact hU_self _ _ _ | (refine (hU_ne (by omega)).trans ?_; first | assumption | exact hU_self _ _ _)))) (by exact rfl) ?_
      refine qV_iload_n (pc := 37) 3 dX2_takesOut_37 rfl rfl ?_
      refine qV_aload_n (pc := 38) 0 dX2_takesOut_38 rfl rfl ?_
      refine qV_get (pc := 39) kX2 2 (le_b rfl) lk_X2_14 rfl dX2_takesOut_39 (by first | assumption | exact hU_self _ _ _ | (refine (hU_ne (by omega)).trans ?_; first | assumption | exact hU_self _ _ _ | (refine (hU_ne (by omega)).trans ?_; first | assumption | exact hU_self _ _ _ | (refine (hU_ne (by omega)).trans ?_; first | assumption | exact hU_self _ _ _)))) (by exact rfl) ?_
      refine qV_iload_n (pc := 42) 3 dX2_takesOut_42 rfl rfl ?_
      refine qV_rdV (pc := 43) (c_gt hr hq (by omega)) nX3_get kX3 lk_X2_54 dX2_takesOut_43 hr.obj ⟨le_b rfl, le_b rfl⟩ ⟨le_b rfl, le_b rfl⟩ rfl (le_b rfl) ?_
      rw [e0]
      refine qV_iload_n (pc := 46) 1 dX2_takesOut_46 rfl rfl ?_
      refine qV_iload_n (pc := 47) 2 dX2_takesOut_47 rfl rfl ?_
      refine qV_rdS (pc := 48) (c_mvT hmi hx hk) nX2_placeAfterTaking lk_X2_58 dX2_takesOut_48 ⟨le_b rfl, le_b rfl⟩ ⟨le_b rfl, le_b rfl⟩ rfl (le_b rfl) ?_
      refine qV_voV (pc := 51) (c_set hr hq (by omega)) nX3_set kX3 lk_X2_62 dX2_takesOut_51 hr.obj ⟨le_b rfl, le_b rfl⟩ ⟨le_b rfl, le_b rfl⟩ rfl (le_b rfl) ?_
      rintro h2 _ ⟨hr2, hf2, rfl⟩
      refine qV_iinc (pc := 54) 3 dX2_takesOut_54 rfl (le_b rfl) (le_b rfl) rfl ?_
      refine qV_goto (pc := 57) 27 dX2_takesOut_57 (by decide) ?_
      refine ih (i + 1) _ h2 (by omega) (by omega) (by omega) ((hf2 p (by omega)).trans ho) (hb.fr hf2 (by omega)) (hc.fr hf2 (by omega)) (hr2.congr (fun j hj => ?_)) (hf.trans (hf2.wide (by omega) (by omega)))
      by_cases e : j = i
      · subst e; rw [va_up_self, if_pos (by omega)]
      · rw [va_up_ne _ _ e]
        by_cases e2 : j < i
        · rw [if_pos e2, if_pos (by omega)]
        · rw [if_neg e2, if_neg (by omega)]
set_option maxRecDepth 100000 in
set_option maxHeartbeats 4000000 in
theorem puts_marks {o : Nat} {x k rd : Int} {n c : Nat} {T C mk : Nat → Int} (hx : 0 ≤ x ∧ x ≤ 5000) (hk : 0 ≤ k ∧ k ≤ 5000) (hrd : -9 ≤ rd ∧ rd ≤ 5000) (hmk : ∀ j, j < 26 → -9 ≤ mk j ∧ mk j ≤ 5000) : ∀ (m i : Nat) (q : Int) (h1 : qH), 26 - i = m → i ≤ 26 → q = i → h1 p = some (pob p rd) → Row h1 (p + 3) B n T → Row h1 (p + 5) B c C → Row h1 (p + 1) 26 26 (fun j => if j < i then mvP (mk j) x k else mk j) → Fr h h1 p (p + 7) → qVM l mX2_putsIn 0 0 h sz (fun v h' sz' => v = none ∧ Page h' p B (n, T, c, C, (fun j => mvP (mk j) x k), mvP rd x k) ∧ Fr h h' p (p + 7) ∧ sz' = sz) 0 0 h1 sz 60 [some (.ref p), some (vI x), some (.ref o), some (vI k), some (vI q)] [] := by
  intro m
  induction m with
  | zero =>
    intro i q h1 hm hi hq ho hb hc hr hf
    obtain rfl : i = 26 := by omega
    refine qV_iload (pc := 60) 4 dX2_putsIn_60 rfl ?_
    refine qV_bipush (pc := 62) dX2_putsIn_62 rfl ?_
    refine qV_icmp_ge (pc := 64) 96 dX2_putsIn_64 (by decide) ⟨by omega, by omega⟩ ⟨by omega, by omega⟩ (fun c64 => ?_) (fun c64 => ?_)
    · refine qV_aload_n (pc := 96) 0 dX2_putsIn_96 rfl rfl ?_
      refine qV_aload_n (pc := 97) 0 dX2_putsIn_97 rfl rfl ?_
      refine qV_get (pc := 98) kX2 3 (le_b rfl) lk_X2_33 rfl dX2_putsIn_98 (by first | assumption | exact hU_self _ _ _ | (refine (hU_ne (by omega)).trans ?_; first | assumption | exact hU_self _ _ _ | (refine (hU_ne (by omega)).trans ?_; first | assumption | exact hU_self _ _ _ | (refine (hU_ne (by omega)).trans ?_; first | assumption | exact hU_self _ _ _)))) (by exact rfl) ?_
      refine qV_iload_n (pc := 101) 1 dX2_putsIn_101 rfl rfl ?_
      refine qV_iload_n (pc := 102) 3 dX2_putsIn_102 rfl rfl ?_
      refine qV_rdS (pc := 103) (c_mvP hrd hx hk) nX2_placeAfterPutting lk_X2_75 dX2_putsIn_103 ⟨le_b rfl, le_b rfl⟩ ⟨le_b rfl, le_b rfl⟩ rfl (le_b rfl) ?_
      refine qV_put (pc := 106) kX2 3 (le_b rfl) lk_X2_33 rfl rfl rfl rfl dX2_putsIn_106 (by first | assumption | exact hU_self _ _ _ | (refine (hU_ne (by omega)).trans ?_; first | assumption | exact hU_self _ _ _ | (refine (hU_ne (by omega)).trans ?_; first | assumption | exact hU_self _ _ _ | (refine (hU_ne (by omega)).trans ?_; first | assumption | exact hU_self _ _ _)))) (by exact le_b rfl) ?_
      refine qV_vret (pc := 109) dX2_putsIn_109 rfl (le_b rfl) (le_b rfl) ?_
      have hf2 : Fr h1 (hU h1 p (pob p (mvP rd x k))) p (p + 1) := Fr.hU (by omega) (by omega)
      exact ⟨rfl, ⟨hU_self _ _ _, hb.fr hf2 (by omega), hc.fr hf2 (by omega), (hr.congr (fun j hj => if_pos hj)).fr hf2 (by omega)⟩, hf.trans (hf2.wide (by omega) (by omega)), rfl⟩
    · exfalso; omega
  | succ m ih =>
    intro i q h1 hm hi hq ho hb hc hr hf
    have hmi := hmk i (by omega)
    have e0 : (if i < i then mvP (mk i) x k else mk i) = mk i := if_neg (by omega)
    refine qV_iload (pc := 60) 4 dX2_putsIn_60 rfl ?_
    refine qV_bipush (pc := 62) dX2_putsIn_62 rfl ?_
    refine qV_icmp_ge (pc := 64) 96 dX2_putsIn_64 (by decide) ⟨by omega, by omega⟩ ⟨by omega, by omega⟩ (fun c64 => ?_) (fun c64 => ?_)
    · exfalso; omega
    · refine qV_aload_n (pc := 67) 0 dX2_putsIn_67 rfl rfl ?_
      refine qV_get (pc := 68) kX2 2 (le_b rfl) lk_X2_14 rfl dX2_putsIn_68 (by first | assumption | exact hU_self _ _ _ | (refine (hU_ne (by omega)).trans ?_; first | assumption | exact hU_self _ _ _ | (refine (hU_ne (by omega)).trans ?_; first | assumption | exact hU_self _ _ _ | (refine (hU_ne (by omega)).trans ?_; first | assumption | exact hU_self _ _ _)))) (by exact rfl) ?_
      refine qV_iload (pc := 71) 4 dX2_putsIn_71 rfl ?_
      refine qV_aload_n (pc := 73) 0 dX2_putsIn_73 rfl rfl ?_
      refine qV_get (pc := 74) kX2 2 (le_b rfl) lk_X2_14 rfl dX2_putsIn_74 (by first | assumption | exact hU_self _ _ _ | (refine (hU_ne (by omega)).trans ?_; first | assumption | exact hU_self _ _ _ | (refine (hU_ne (by omega)).trans ?_; first | assumption | exact hU_self _ _ _ | (refine (hU_ne (by omega)).trans ?_; first | assumption | exact hU_self _ _ _)))) (by exact rfl) ?_
      refine qV_iload (pc := 77) 4 dX2_putsIn_77 rfl ?_
      refine qV_rdV (pc := 79) (c_gt hr hq (by omega)) nX3_get kX3 lk_X2_54 dX2_putsIn_79 hr.obj ⟨le_b rfl, le_b rfl⟩ ⟨le_b rfl, le_b rfl⟩ rfl (le_b rfl) ?_
      rw [e0]
      refine qV_iload_n (pc := 82) 1 dX2_putsIn_82 rfl rfl ?_
      refine qV_iload_n (pc := 83) 3 dX2_putsIn_83 rfl rfl ?_
      refine qV_rdS (pc := 84) (c_mvP hmi hx hk) nX2_placeAfterPutting lk_X2_75 dX2_putsIn_84 ⟨le_b rfl, le_b rfl⟩ ⟨le_b rfl, le_b rfl⟩ rfl (le_b rfl) ?_
      refine qV_voV (pc := 87) (c_set hr hq (by omega)) nX3_set kX3 lk_X2_62 dX2_putsIn_87 hr.obj ⟨le_b rfl, le_b rfl⟩ ⟨le_b rfl, le_b rfl⟩ rfl (le_b rfl) ?_
      rintro h2 _ ⟨hr2, hf2, rfl⟩
      refine qV_iinc (pc := 90) 4 dX2_putsIn_90 rfl (le_b rfl) (le_b rfl) rfl ?_
      refine qV_goto (pc := 93) 60 dX2_putsIn_93 (by decide) ?_
      refine ih (i + 1) _ h2 (by omega) (by omega) (by omega) ((hf2 p (by omega)).trans ho) (hb.fr hf2 (by omega)) (hc.fr hf2 (by omega)) (hr2.congr (fun j hj => ?_)) (hf.trans (hf2.wide (by omega) (by omega)))
      by_cases e : j = i
      · subst e; rw [va_up_self, if_pos (by omega)]
      · rw [va_up_ne _ _ e]
        by_cases e2 : j < i
        · rw [if_pos e2, if_pos (by omega)]
        · rw [if_neg e2, if_neg (by omega)]
set_option maxRecDepth 100000 in
set_option maxHeartbeats 4000000 in
theorem c_take {x q : Int} {i k : Nat} (hP : Page h p B P) (hw : wf B P) (hx : x = i) (hq : q = k) (hik : i + k ≤ P.1) : qVo l mX2_takesOut 0 0 [.ref p, vI x, vI q] h sz (fun h' sz' => Page h' p B (if k = 0 then P else takeP P i k) ∧ Fr h h' p (p + 7) ∧ sz' = sz) := by
  subst hx
  subst hq
  obtain ⟨ho, hb, hc, hm⟩ := hP
  have hle := hb.le
  obtain ⟨s1, s2⟩ := wf_sh hw hik
  obtain ⟨w1, w2, w3, w4, w5, w6, w7⟩ := id hw
  have hC : ∀ j, j < P.2.2.1 → 0 ≤ P.2.2.2.1 j := fun j hj => by have := w3 j hj; omega
  have hC1 : ∀ j, j < shN (stay P.2.2.2.1 i k) P.2.2.1 → 0 ≤ shF (stay P.2.2.2.1 i k) P.2.2.1 j := fun j hj => by have := s1 j hj; simp only [shG] at this; omega
  refine qC.of 1 (by decide) (le_b rfl) ?_
  refine qV_iload_n (pc := 0) 2 dX2_takesOut_0 rfl rfl ?_
  refine qV_ifgt (pc := 1) 5 dX2_takesOut_1 (by decide) ⟨by omega, by omega⟩ (fun c1 => ?_) (fun c1 => ?_)
  · refine qV_aload_n (pc := 5) 0 dX2_takesOut_5 rfl rfl ?_
    refine qV_get (pc := 6) kX2 0 (le_b rfl) lk_X2_20 rfl dX2_takesOut_6 (by first | assumption | exact hU_self _ _ _ | (refine (hU_ne (by omega)).trans ?_; first | assumption | exact hU_self _ _ _ | (refine (hU_ne (by omega)).trans ?_; first | assumption | exact hU_self _ _ _ | (refine (hU_ne (by omega)).trans ?_; first | assumption | exact hU_self _ _ _)))) (by exact rfl) ?_
    refine qV_iload_n (pc := 9) 1 dX2_takesOut_9 rfl rfl ?_
    refine qV_iload_n (pc := 10) 2 dX2_takesOut_10 rfl rfl ?_
    refine qV_voV (pc := 11) (c_closes (i := i) (k := k) hb rfl rfl hik) nX3_closes kX3 lk_X2_45 dX2_takesOut_11 hb.obj ⟨le_b rfl, le_b rfl⟩ ⟨le_b rfl, le_b rfl⟩ rfl (le_b rfl) ?_
    rintro h2 _ ⟨hb2, hf2, rfl⟩
    have ho2 := (hf2 p (by omega)).trans ho
    have hc2 := hc.fr hf2 (by omega)
    have hm2 := hm.fr hf2 (by omega)
    refine qV_aload_n (pc := 14) 0 dX2_takesOut_14 rfl rfl ?_
    refine qV_iload_n (pc := 15) 1 dX2_takesOut_15 rfl rfl ?_
    refine qV_iload_n (pc := 16) 2 dX2_takesOut_16 rfl rfl ?_
    refine qV_voV (pc := 17) (c_shrink ho2 hc2 ⟨by omega, by omega⟩ ⟨by omega, by omega⟩ hC (by omega)) nX2_shrinksChunks kX2 lk_X2_48 dX2_takesOut_17 (by first | assumption | exact hU_self _ _ _ | (refine (hU_ne (by omega)).trans ?_; first | assumption | exact hU_self _ _ _ | (refine (hU_ne (by omega)).trans ?_; first | assumption | exact hU_self _ _ _ | (refine (hU_ne (by omega)).trans ?_; first | assumption | exact hU_self _ _ _)))) ⟨le_b rfl, le_b rfl⟩ ⟨le_b rfl, le_b rfl⟩ rfl (le_b rfl) ?_
    rintro h3 _ ⟨hc3, hf3, rfl⟩
    have ho3 := (hf3 p (by omega)).trans ho2
    have hb3 := hb2.fr hf3 (by omega)
    have hm3 := hm2.fr hf3 (by omega)
    refine qV_aload_n (pc := 20) 0 dX2_takesOut_20 rfl rfl ?_
    refine qV_iload_n (pc := 21) 1 dX2_takesOut_21 rfl rfl ?_
    refine qV_voV (pc := 22) (c_join ho3 hc3 hC1 (by simp only [shG, shC] at s2; omega) ⟨by omega, by omega⟩ (fun _ => by simp only [shG, shC] at s2; omega)) nX2_joinsChunks kX2 lk_X2_51 dX2_takesOut_22 (by first | assumption | exact hU_self _ _ _ | (refine (hU_ne (by omega)).trans ?_; first | assumption | exact hU_self _ _ _ | (refine (hU_ne (by omega)).trans ?_; first | assumption | exact hU_self _ _ _ | (refine (hU_ne (by omega)).trans ?_; first | assumption | exact hU_self _ _ _)))) ⟨le_b rfl, le_b rfl⟩ ⟨le_b rfl, le_b rfl⟩ rfl (le_b rfl) ?_
    rintro h4 _ ⟨hc4, hf4, rfl⟩
    have ho4 := (hf4 p (by omega)).trans ho3
    have hb4 := hb3.fr hf4 (by omega)
    have hm4 := hm3.fr hf4 (by omega)
    refine qV_iconst (pc := 25) dX2_takesOut_25 ?_
    refine qV_istore_n (pc := 26) 3 dX2_takesOut_26 rfl (le_b rfl) (le_b rfl) rfl ?_
    have hk0 : ¬ k = 0 := by omega
    rw [if_neg hk0]
    exact take_marks ⟨by omega, by omega⟩ ⟨by omega, by omega⟩ ⟨by omega, by omega⟩ (fun j hj => by have := w5 j hj; omega) 26 0 _ h4 (by omega) (by omega) rfl ho4 hb4 hc4 (hm4.congr (fun j hj => (if_neg (by omega)).symm)) (((hf2.wide (by omega) (by omega)).trans (hf3.wide (by omega) (by omega))).trans (hf4.wide (by omega) (by omega)))
  · refine qV_vret (pc := 4) dX2_takesOut_4 rfl (le_b rfl) (le_b rfl) ?_
    have hk0 : k = 0 := by omega
    rw [if_pos hk0]
    exact ⟨rfl, ⟨ho, hb, hc, hm⟩, Fr.rf, rfl⟩
set_option maxRecDepth 100000 in
set_option maxHeartbeats 4000000 in
theorem puts_rest {i m o : Nat} {W : Nat → Int} (hw : wf B P) (hi : i ≤ P.1) (hm0 : 0 < m) (hm : m ≤ 24) (hB : P.1 + m ≤ B) (hB2 : B ≤ 5000) {h1 : qH} {x4 : Int} (ho : h1 p = some (pob p P.2.2.2.2.2)) (hb : Row h1 (p + 3) B (P.1 + m) (fun j => if j < i then P.2.1 j else if j < i + m then W (j - i) else P.2.1 (j - m))) (hc : Row h1 (p + 5) B P.2.2.1 P.2.2.2.1) (hmk : Row h1 (p + 1) 26 26 P.2.2.2.2.1) (hf : Fr h h1 p (p + 7)) : qVM l mX2_putsIn 0 0 h sz (fun v h' sz' => v = none ∧ Page h' p B (putP P i m W) ∧ Fr h h' p (p + 7) ∧ sz' = sz) 0 0 h1 sz 51 [some (.ref p), some (vI i), some (.ref o), some (vI m), some (vI x4)] [] := by
  obtain ⟨g1, g2, g3, g4, g5, g6⟩ := wf_g hw hi
  obtain ⟨s1, s2, s3⟩ := gP_ok hw hi hm0 hm
  have hcap : gC P + gP P i m - 1 ≤ P.1 + m := by
    have e1 := gw_sum (C := gG P) g4.1 s1 s2 s3
    have e2 := csum_ge (fun j hj => (gw_in g5 g4.1 s1 s2 s3 j hj).1)
    rw [e1, g2] at e2
    have : gS P i m = gG P (gK P i) + m := rfl
    omega
  obtain ⟨w1, w2, w3, w4, w5, w6, w7⟩ := id hw
  refine qV_aload_n (pc := 51) 0 dX2_putsIn_51 rfl rfl ?_
  refine qV_iload_n (pc := 52) 1 dX2_putsIn_52 rfl rfl ?_
  refine qV_iload_n (pc := 53) 3 dX2_putsIn_53 rfl rfl ?_
  refine qV_voV (pc := 54) (c_grow (z := gC P) (Z := gG P) (parts := gP P i m) ho hc rfl rfl g1 (by omega) ⟨by omega, by omega⟩ (by omega) ⟨hm0, hm⟩ s3 (by omega) (by omega)) nX2_growsChunk kX2 lk_X2_72 dX2_putsIn_54 (by first | assumption | exact hU_self _ _ _ | (refine (hU_ne (by omega)).trans ?_; first | assumption | exact hU_self _ _ _ | (refine (hU_ne (by omega)).trans ?_; first | assumption | exact hU_self _ _ _ | (refine (hU_ne (by omega)).trans ?_; first | assumption | exact hU_self _ _ _)))) ⟨le_b rfl, le_b rfl⟩ ⟨le_b rfl, le_b rfl⟩ rfl (le_b rfl) ?_
  rintro h2 _ ⟨hc2, hf2, rfl⟩
  refine qV_iconst (pc := 57) dX2_putsIn_57 ?_
  refine qV_istore (pc := 58) 4 dX2_putsIn_58 (le_b rfl) (le_b rfl) rfl ?_
  exact puts_marks ⟨by omega, by omega⟩ ⟨by omega, by omega⟩ ⟨by omega, by omega⟩ (fun j hj => by have := w5 j hj; omega) 26 0 _ h2 (by omega) (by omega) rfl ((hf2 p (by omega)).trans ho) (hb.fr hf2 (by omega)) hc2 ((hmk.fr hf2 (by omega)).congr (fun j hj => (if_neg (by omega)).symm)) (hf.trans (hf2.wide (by omega) (by omega)))
set_option maxRecDepth 100000 in
set_option maxHeartbeats 4000000 in
theorem puts_bytes {i m o No : Nat} {W : Nat → Int} (hw : wf B P) (hi : i ≤ P.1) (hm0 : 0 < m) (hm : m ≤ 24) (hB : P.1 + m ≤ B) (hB2 : B ≤ 5000) (hd : p + 7 ≤ o ∨ o + 2 ≤ p) : ∀ (d t : Nat) (q : Int) (h1 : qH) (R : Nat → Int), m - t = d → t ≤ m → q = t → h1 p = some (pob p P.2.2.2.2.2) → Row h1 (p + 3) B (P.1 + m) R → (∀ j, j < i → R j = P.2.1 j) → (∀ j, i + m ≤ j → j < P.1 + m → R j = P.2.1 (j - m)) → (∀ j, j < t → R (i + j) = W j) → Row h1 (p + 5) B P.2.2.1 P.2.2.2.1 → Row h1 (p + 1) 26 26 P.2.2.2.2.1 → Row h1 o No m W → Fr h h1 p (p + 7) → qVM l mX2_putsIn 0 0 h sz (fun v h' sz' => v = none ∧ Page h' p B (putP P i m W) ∧ Fr h h' p (p + 7) ∧ sz' = sz) 0 0 h1 sz 22 [some (.ref p), some (vI i), some (.ref o), some (vI m), some (vI q)] [] := by
  intro d
  induction d with
  | zero =>
    intro t q h1 R hd2 ht hq ho hb r1 r2 r3 hc hmk hW hf
    obtain rfl : t = m := by omega
    refine qV_iload (pc := 22) 4 dX2_putsIn_22 rfl ?_
    refine qV_iload_n (pc := 24) 3 dX2_putsIn_24 rfl rfl ?_
    refine qV_icmp_ge (pc := 25) 51 dX2_putsIn_25 (by decide) ⟨by omega, by omega⟩ ⟨by omega, by omega⟩ (fun c25 => ?_) (fun c25 => ?_)
    · exact puts_rest hw hi hm0 hm hB hB2 ho (hb.congr (fun j hj => by
        by_cases e : j < i
        · rw [if_pos e]; exact r1 j e
        · rw [if_neg e]
          by_cases e2 : j < i + t
          · rw [if_pos e2]
            have := r3 (j - i) (by omega)
            rw [show i + (j - i) = j by omega] at this
            exact this
          · rw [if_neg e2]; exact r2 j (by omega) hj)) hc hmk hf
    · exfalso; omega
  | succ d ih =>
    intro t q h1 R hd2 ht hq ho hb r1 r2 r3 hc hmk hW hf
    refine qV_iload (pc := 22) 4 dX2_putsIn_22 rfl ?_
    refine qV_iload_n (pc := 24) 3 dX2_putsIn_24 rfl rfl ?_
    refine qV_icmp_ge (pc := 25) 51 dX2_putsIn_25 (by decide) ⟨by omega, by omega⟩ ⟨by omega, by omega⟩ (fun c25 => ?_) (fun c25 => ?_)
    · exfalso; omega
    · refine qV_aload_n (pc := 28) 0 dX2_putsIn_28 rfl rfl ?_
      refine qV_get (pc := 29) kX2 0 (le_b rfl) lk_X2_20 rfl dX2_putsIn_29 (by first | assumption | exact hU_self _ _ _ | (refine (hU_ne (by omega)).trans ?_; first | assumption | exact hU_self _ _ _ | (refine (hU_ne (by omega)).trans ?_; first | assumption | exact hU_self _ _ _ | (refine (hU_ne (by omega)).trans ?_; first | assumption | exact hU_self _ _ _)))) (by exact rfl) ?_
      refine qV_iload_n (pc := 32) 1 dX2_putsIn_32 rfl rfl ?_
      refine qV_iload (pc := 33) 4 dX2_putsIn_33 rfl ?_
      refine qV_iadd (pc := 35) dX2_putsIn_35 ?_
      refine qV_aload_n (pc := 36) 2 dX2_putsIn_36 rfl rfl ?_
      refine qV_iload (pc := 37) 4 dX2_putsIn_37 rfl ?_
      refine qV_rdV (pc := 39) (c_gt hW hq (by omega)) nX3_get kX3 lk_X2_54 dX2_putsIn_39 hW.obj ⟨le_b rfl, le_b rfl⟩ ⟨le_b rfl, le_b rfl⟩ rfl (le_b rfl) ?_
      refine qV_voV (pc := 42) (c_set hb (i := i + t) (by omega) (by omega)) nX3_set kX3 lk_X2_62 dX2_putsIn_42 hb.obj ⟨le_b rfl, le_b rfl⟩ ⟨le_b rfl, le_b rfl⟩ rfl (le_b rfl) ?_
      rintro h2 _ ⟨hb2, hf2, rfl⟩
      refine qV_iinc (pc := 45) 4 dX2_putsIn_45 rfl (le_b rfl) (le_b rfl) rfl ?_
      refine qV_goto (pc := 48) 22 dX2_putsIn_48 (by decide) ?_
      refine ih (t + 1) _ h2 _ (by omega) (by omega) (by omega) ((hf2 p (by omega)).trans ho) hb2 (fun j hj => ?_) (fun j hj hj2 => ?_) (fun j hj => ?_) (hc.fr hf2 (by omega)) (hmk.fr hf2 (by omega)) (hW.fr hf2 (by omega)) (hf.trans (hf2.wide (by omega) (by omega)))
      · rw [va_up_ne _ _ (by omega)]; exact r1 j hj
      · rw [va_up_ne _ _ (by omega)]; exact r2 j hj hj2
      · by_cases e : j = t
        · subst e; rw [va_up_self]
        · rw [va_up_ne _ _ (by omega)]; exact r3 j (by omega)
set_option maxRecDepth 100000 in
set_option maxHeartbeats 4000000 in
theorem c_puts {x : Int} {i m o No : Nat} {W : Nat → Int} (hP : Page h p B P) (hw : wf B P) (hx : x = i) (hi : i ≤ P.1) (hm : m ≤ 24) (hB : P.1 + m ≤ B) (hW : Row h o No m W) (hd : p + 7 ≤ o ∨ o + 2 ≤ p) : qVo l mX2_putsIn 0 0 [.ref p, vI x, .ref o] h sz (fun h' sz' => Page h' p B (if m = 0 then P else putP P i m W) ∧ Fr h h' p (p + 7) ∧ sz' = sz) := by
  subst hx
  obtain ⟨ho, hb, hc, hmk⟩ := hP
  have hle := hb.le
  have hle2 := hW.le
  refine qC.of 2 (by decide) (le_b rfl) ?_
  refine qV_aload_n (pc := 0) 2 dX2_putsIn_0 rfl rfl ?_
  refine qV_rdV (pc := 1) (c_size hW) nX3_size kX3 lk_X2_65 dX2_putsIn_1 hW.obj ⟨le_b rfl, le_b rfl⟩ ⟨le_b rfl, le_b rfl⟩ rfl (le_b rfl) ?_
  refine qV_istore_n (pc := 4) 3 dX2_putsIn_4 rfl (le_b rfl) (le_b rfl) rfl ?_
  refine qV_iload_n (pc := 5) 3 dX2_putsIn_5 rfl rfl ?_
  refine qV_ifne (pc := 6) 10 dX2_putsIn_6 (by decide) ⟨by omega, by omega⟩ (fun c6 => ?_) (fun c6 => ?_)
  · refine qV_aload_n (pc := 10) 0 dX2_putsIn_10 rfl rfl ?_
    refine qV_get (pc := 11) kX2 0 (le_b rfl) lk_X2_20 rfl dX2_putsIn_11 (by first | assumption | exact hU_self _ _ _ | (refine (hU_ne (by omega)).trans ?_; first | assumption | exact hU_self _ _ _ | (refine (hU_ne (by omega)).trans ?_; first | assumption | exact hU_self _ _ _ | (refine (hU_ne (by omega)).trans ?_; first | assumption | exact hU_self _ _ _)))) (by exact rfl) ?_
    refine qV_iload_n (pc := 14) 1 dX2_putsIn_14 rfl rfl ?_
    refine qV_iload_n (pc := 15) 3 dX2_putsIn_15 rfl rfl ?_
    refine qV_voV (pc := 16) (c_opens (i := i) (k := m) hb rfl rfl hi hB) nX3_opens kX3 lk_X2_69 dX2_putsIn_16 hb.obj ⟨le_b rfl, le_b rfl⟩ ⟨le_b rfl, le_b rfl⟩ rfl (le_b rfl) ?_
    rintro h2 _ ⟨⟨T2, hb2, t1, t2⟩, hf2, rfl⟩
    refine qV_iconst (pc := 19) dX2_putsIn_19 ?_
    refine qV_istore (pc := 20) 4 dX2_putsIn_20 (le_b rfl) (le_b rfl) rfl ?_
    rw [if_neg (by omega : ¬ m = 0)]
    exact puts_bytes hw hi (by omega) hm hB (by omega) hd m 0 _ h2 T2 (by omega) (by omega) rfl ((hf2 p (by omega)).trans ho) hb2 t1 (fun j hj hj2 => by
      have := t2 (j - m) (by omega) (by omega)
      rw [show j - m + m = j by omega] at this
      exact this) (fun j hj => by omega) (hc.fr hf2 (by omega)) (hmk.fr hf2 (by omega)) (hW.fr hf2 (by omega)) (hf2.wide (by omega) (by omega))
  · refine qV_vret (pc := 9) dX2_putsIn_9 rfl (le_b rfl) (le_b rfl) ?_
    rw [if_pos (by omega : m = 0)]
    exact ⟨rfl, ⟨ho, hb, hc, hmk⟩, Fr.rf, rfl⟩
theorem edP_eq (P : PG) (p k m : Nat) (W : Nat → Int) : (if m = 0 then (if k = 0 then P else takeP P p k) else putP (if k = 0 then P else takeP P p k) p m W) = edP P p k m W := rfl
theorem take_n {P : PG} {p k : Nat} : (if k = 0 then P else takeP P p k).1 = P.1 - k := by
  by_cases e : k = 0
  · rw [if_pos e]; omega
  · rw [if_neg e]; rfl
theorem wf_take0 {B : Nat} {P : PG} (h : wf B P) {p k : Nat} (hp : p + k ≤ P.1) : wf B (if k = 0 then P else takeP P p k) := by
  by_cases e : k = 0
  · rw [if_pos e]; exact h
  · rw [if_neg e]; exact wf_take h hp
theorem ed_n {P : PG} {p k m : Nat} {W : Nat → Int} : (edP P p k m W).1 = P.1 - k + m := by
  simp only [edP]
  by_cases e : m = 0
  · rw [if_pos e, take_n]; omega
  · rw [if_neg e]
    show (if k = 0 then P else takeP P p k).1 + m = _
    rw [take_n]
theorem wf_ed {B B' : Nat} {P : PG} {W : Nat → Int} (h : wf B P) {p k m : Nat} (hp : p + k ≤ P.1) (hm : m ≤ 24) (hW : ∀ j, j < m → 0 ≤ W j ∧ W j ≤ 255) (hB : P.1 - k + m ≤ B') : wf B' (edP P p k m W) := by
  have h1 := wf_take0 h hp
  have h2 := take_n (P := P) (p := p) (k := k)
  simp only [edP]
  by_cases e : m = 0
  · rw [if_pos e]; exact h1.up (by omega)
  · rw [if_neg e]
    exact wf_put h1 (by omega) (by omega) hm hW (by omega)
set_option maxRecDepth 100000 in
set_option maxHeartbeats 4000000 in
theorem c_replaces {x q : Int} {i k m o No : Nat} {W : Nat → Int} (hP : Page h p B P) (hw : wf B P) (hx : x = i) (hq : q = k) (hik : i + k ≤ P.1) (hm : m ≤ 24) (hB : P.1 - k + m ≤ B) (hW : Row h o No m W) (hd : p + 7 ≤ o ∨ o + 2 ≤ p) : qVo l mX2_replaces 0 0 [.ref p, vI x, vI q, .ref o] h sz (fun h' sz' => Page h' p B (edP P i k m W) ∧ Fr h h' p (p + 7) ∧ sz' = sz) := by
  have hn := take_n (P := P) (p := i) (k := k)
  have hob := hP.1
  refine qC.of 0 (by decide) (le_b rfl) ?_
  refine qV_aload_n (pc := 0) 0 dX2_replaces_0 rfl rfl ?_
  refine qV_iload_n (pc := 1) 1 dX2_replaces_1 rfl rfl ?_
  refine qV_iload_n (pc := 2) 2 dX2_replaces_2 rfl rfl ?_
  refine qV_voV (pc := 3) (c_take hP hw hx hq hik) nX2_takesOut kX2 lk_X2_37 dX2_replaces_3 (by first | assumption | exact hU_self _ _ _ | (refine (hU_ne (by omega)).trans ?_; first | assumption | exact hU_self _ _ _ | (refine (hU_ne (by omega)).trans ?_; first | assumption | exact hU_self _ _ _ | (refine (hU_ne (by omega)).trans ?_; first | assumption | exact hU_self _ _ _)))) ⟨le_b rfl, le_b rfl⟩ ⟨le_b rfl, le_b rfl⟩ rfl (le_b rfl) ?_
  rintro h2 _ ⟨hP2, hf2, rfl⟩
  have hob2 := hP2.1
  refine qV_aload_n (pc := 6) 0 dX2_replaces_6 rfl rfl ?_
  refine qV_iload_n (pc := 7) 1 dX2_replaces_7 rfl rfl ?_
  refine qV_aload_n (pc := 8) 3 dX2_replaces_8 rfl rfl ?_
  refine qV_voV (pc := 9) (c_puts hP2 (wf_take0 hw hik) hx (by omega) hm (by omega) (hW.fr hf2 (by omega)) hd) nX2_putsIn kX2 lk_X2_41 dX2_replaces_9 (by first | assumption | exact hU_self _ _ _ | (refine (hU_ne (by omega)).trans ?_; first | assumption | exact hU_self _ _ _ | (refine (hU_ne (by omega)).trans ?_; first | assumption | exact hU_self _ _ _ | (refine (hU_ne (by omega)).trans ?_; first | assumption | exact hU_self _ _ _)))) ⟨le_b rfl, le_b rfl⟩ ⟨le_b rfl, le_b rfl⟩ rfl (le_b rfl) ?_
  rintro h3 _ ⟨hP3, hf3, rfl⟩
  refine qV_vret (pc := 12) dX2_replaces_12 rfl (le_b rfl) (le_b rfl) ?_
  exact ⟨rfl, hP3, hf2.trans hf3, rfl⟩
set_option maxRecDepth 100000 in
set_option maxHeartbeats 4000000 in
theorem c_becomes {o B' : Nat} {P' : PG} (hP : Page h p B P) (hO : Page h o B' P') (hn : P'.1 ≤ B) (hc : P'.2.2.1 ≤ B) (hd : p + 7 ≤ o ∨ o + 7 ≤ p) : qVo l mX2_becomes 0 0 [.ref p, .ref o] h sz (fun h' sz' => Page h' p B P' ∧ Fr h h' p (p + 7) ∧ sz' = sz) := by
  obtain ⟨p1, p2, p3, p4⟩ := hP
  obtain ⟨o1, o2, o3, o4⟩ := hO
  refine qC.of 0 (by decide) (le_b rfl) ?_
  refine qV_aload_n (pc := 0) 0 dX2_becomes_0 rfl rfl ?_
  refine qV_get (pc := 1) kX2 0 (le_b rfl) lk_X2_20 rfl dX2_becomes_1 (by first | assumption | exact hU_self _ _ _ | (refine (hU_ne (by omega)).trans ?_; first | assumption | exact hU_self _ _ _ | (refine (hU_ne (by omega)).trans ?_; first | assumption | exact hU_self _ _ _ | (refine (hU_ne (by omega)).trans ?_; first | assumption | exact hU_self _ _ _)))) (by exact rfl) ?_
  refine qV_aload_n (pc := 4) 1 dX2_becomes_4 rfl rfl ?_
  refine qV_get (pc := 5) kX2 0 (le_b rfl) lk_X2_20 rfl dX2_becomes_5 (by first | assumption | exact hU_self _ _ _ | (refine (hU_ne (by omega)).trans ?_; first | assumption | exact hU_self _ _ _ | (refine (hU_ne (by omega)).trans ?_; first | assumption | exact hU_self _ _ _ | (refine (hU_ne (by omega)).trans ?_; first | assumption | exact hU_self _ _ _)))) (by exact rfl) ?_
  refine qV_voV (pc := 8) (c_copies p2 o2 (by omega) hn) nX3_copies kX3 lk_X2_29 dX2_becomes_8 p2.obj ⟨le_b rfl, le_b rfl⟩ ⟨le_b rfl, le_b rfl⟩ rfl (le_b rfl) ?_
  rintro h2 _ ⟨q2, f2, rfl⟩
  have p1 := (f2 p (by omega)).trans p1
  have p3 := p3.fr f2 (by omega)
  have p4 := p4.fr f2 (by omega)
  have o1 := (f2 o (by omega)).trans o1
  have o3 := o3.fr f2 (by omega)
  have o4 := o4.fr f2 (by omega)
  refine qV_aload_n (pc := 11) 0 dX2_becomes_11 rfl rfl ?_
  refine qV_get (pc := 12) kX2 1 (le_b rfl) lk_X2_23 rfl dX2_becomes_12 (by first | assumption | exact hU_self _ _ _ | (refine (hU_ne (by omega)).trans ?_; first | assumption | exact hU_self _ _ _ | (refine (hU_ne (by omega)).trans ?_; first | assumption | exact hU_self _ _ _ | (refine (hU_ne (by omega)).trans ?_; first | assumption | exact hU_self _ _ _)))) (by exact rfl) ?_
  refine qV_aload_n (pc := 15) 1 dX2_becomes_15 rfl rfl ?_
  refine qV_get (pc := 16) kX2 1 (le_b rfl) lk_X2_23 rfl dX2_becomes_16 (by first | assumption | exact hU_self _ _ _ | (refine (hU_ne (by omega)).trans ?_; first | assumption | exact hU_self _ _ _ | (refine (hU_ne (by omega)).trans ?_; first | assumption | exact hU_self _ _ _ | (refine (hU_ne (by omega)).trans ?_; first | assumption | exact hU_self _ _ _)))) (by exact rfl) ?_
  refine qV_voV (pc := 19) (c_copies p3 o3 (by omega) hc) nX3_copies kX3 lk_X2_29 dX2_becomes_19 p3.obj ⟨le_b rfl, le_b rfl⟩ ⟨le_b rfl, le_b rfl⟩ rfl (le_b rfl) ?_
  rintro h3 _ ⟨q3, f3, rfl⟩
  have p1 := (f3 p (by omega)).trans p1
  have q2 := q2.fr f3 (by omega)
  have p4 := p4.fr f3 (by omega)
  have o1 := (f3 o (by omega)).trans o1
  have o4 := o4.fr f3 (by omega)
  refine qV_aload_n (pc := 22) 0 dX2_becomes_22 rfl rfl ?_
  refine qV_get (pc := 23) kX2 2 (le_b rfl) lk_X2_14 rfl dX2_becomes_23 (by first | assumption | exact hU_self _ _ _ | (refine (hU_ne (by omega)).trans ?_; first | assumption | exact hU_self _ _ _ | (refine (hU_ne (by omega)).trans ?_; first | assumption | exact hU_self _ _ _ | (refine (hU_ne (by omega)).trans ?_; first | assumption | exact hU_self _ _ _)))) (by exact rfl) ?_
  refine qV_aload_n (pc := 26) 1 dX2_becomes_26 rfl rfl ?_
  refine qV_get (pc := 27) kX2 2 (le_b rfl) lk_X2_14 rfl dX2_becomes_27 (by first | assumption | exact hU_self _ _ _ | (refine (hU_ne (by omega)).trans ?_; first | assumption | exact hU_self _ _ _ | (refine (hU_ne (by omega)).trans ?_; first | assumption | exact hU_self _ _ _ | (refine (hU_ne (by omega)).trans ?_; first | assumption | exact hU_self _ _ _)))) (by exact rfl) ?_
  refine qV_voV (pc := 30) (c_copies p4 o4 (by omega) (by omega)) nX3_copies kX3 lk_X2_29 dX2_becomes_30 p4.obj ⟨le_b rfl, le_b rfl⟩ ⟨le_b rfl, le_b rfl⟩ rfl (le_b rfl) ?_
  rintro h4 _ ⟨q4, f4, rfl⟩
  have p1 := (f4 p (by omega)).trans p1
  have q2 := q2.fr f4 (by omega)
  have q3 := q3.fr f4 (by omega)
  have o1 := (f4 o (by omega)).trans o1
  refine qV_aload_n (pc := 33) 0 dX2_becomes_33 rfl rfl ?_
  refine qV_aload_n (pc := 34) 1 dX2_becomes_34 rfl rfl ?_
  refine qV_get (pc := 35) kX2 3 (le_b rfl) lk_X2_33 rfl dX2_becomes_35 (by first | assumption | exact hU_self _ _ _ | (refine (hU_ne (by omega)).trans ?_; first | assumption | exact hU_self _ _ _ | (refine (hU_ne (by omega)).trans ?_; first | assumption | exact hU_self _ _ _ | (refine (hU_ne (by omega)).trans ?_; first | assumption | exact hU_self _ _ _)))) (by exact rfl) ?_
  refine qV_put (pc := 38) kX2 3 (le_b rfl) lk_X2_33 rfl rfl rfl rfl dX2_becomes_38 (by first | assumption | exact hU_self _ _ _ | (refine (hU_ne (by omega)).trans ?_; first | assumption | exact hU_self _ _ _ | (refine (hU_ne (by omega)).trans ?_; first | assumption | exact hU_self _ _ _ | (refine (hU_ne (by omega)).trans ?_; first | assumption | exact hU_self _ _ _)))) (by exact le_b rfl) ?_
  refine qV_vret (pc := 41) dX2_becomes_41 rfl (le_b rfl) (le_b rfl) ?_
  have f5 : Fr h4 (hU h4 p (pob p P'.2.2.2.2.2)) p (p + 1) := Fr.hU (by omega) (by omega)
  exact ⟨rfl, ⟨hU_self _ _ _, q2.fr f5 (by omega), q3.fr f5 (by omega), q4.fr f5 (by omega)⟩, (((f2.wide (by omega) (by omega)).trans (f3.wide (by omega) (by omega))).trans (f4.wide (by omega) (by omega))).trans (f5.wide (by omega) (by omega)), rfl⟩
end PAGE
