/-! ===== Sums: lines by width; a new one ===== -/
section SUMS2
variable {l : Launch} {h : qH} {sz u n : Nat} {T : Nat → Int} {s : Int}
set_option maxRecDepth 100000 in
set_option maxHeartbeats 4000000 in
theorem sort_inner {i : Nat} {q : Int} {xs : List Nat} (hn : n ≤ 120) (hi : i < nl T n + 1) (hq : q = i) (hx : srt (lnW T n) i xs)
    (kk : ∀ (h2 : qH) (z : Int) (k : Nat), k ≤ i → srt (lnW T n) (i + 1) (xs.take k ++ i :: xs.drop k) → Row h2 (u + 11) 121 (i + 1) (fun j => (((xs.take k ++ i :: xs.drop k).getD j 0 : Nat) : Int)) → Fr h h2 (u + 11) (u + 13) → qVM l mX5_sortsLines 0 0 h sz (fun v h' sz' => v = none ∧ (∃ xs, srt (lnW T n) (nl T n + 1) xs ∧ Row h' (u + 11) 121 (nl T n + 1) (fun j => ((xs.getD j 0 : Nat) : Int))) ∧ Fr h h' (u + 11) (u + 13) ∧ sz' = sz) 0 0 h2 sz 88 [some (.ref u), some (vI q), some (vI (lnW T n i)), some (vI z)] []) :
    ∀ (k : Nat) (z : Int) (h1 : qH) (R : Nat → Int), k ≤ i → z = k → h1 u = some (sob u 0) → SumW h1 u n T → Row h1 (u + 9) 121 (nl T n + 1) (fun k => ((lbN T n k : Nat) : Int)) → Row h1 (u + 11) 121 (i + 1) R → (∀ j, j < k → R j = ((xs.getD j 0 : Nat) : Int)) → (∀ j, k < j → j ≤ i → R j = ((xs.getD (j - 1) 0 : Nat) : Int)) → (∀ j, k ≤ j → j < i → lnW T n (xs.getD j 0) < lnW T n i) → Fr h h1 (u + 11) (u + 13) → qVM l mX5_sortsLines 0 0 h sz (fun v h' sz' => v = none ∧ (∃ xs, srt (lnW T n) (nl T n + 1) xs ∧ Row h' (u + 11) 121 (nl T n + 1) (fun j => ((xs.getD j 0 : Nat) : Int))) ∧ Fr h h' (u + 11) (u + 13) ∧ sz' = sz) 0 0 h1 sz 33 [some (.ref u), some (vI q), some (vI (lnW T n i)), some (vI z)] [] := by
  have hlen := hx.len
  have hwi := lnW_in (T := T) (n := n) (k := i) (by omega)
  have hset : ∀ (k : Nat) (z : Int) (h1 h2 : qH) (R : Nat → Int), k ≤ i → z = k → (k = 0 ∨ lnW T n i ≤ lnW T n (xs.getD (k - 1) 0)) → (∀ j, j < k → R j = ((xs.getD j 0 : Nat) : Int)) → (∀ j, k < j → j ≤ i → R j = ((xs.getD (j - 1) 0 : Nat) : Int)) → (∀ j, k ≤ j → j < i → lnW T n (xs.getD j 0) < lnW T n i) → Row h2 (u + 11) 121 (i + 1) (va_up R k q) → Fr h h2 (u + 11) (u + 13) → qVM l mX5_sortsLines 0 0 h sz (fun v h' sz' => v = none ∧ (∃ xs, srt (lnW T n) (nl T n + 1) xs ∧ Row h' (u + 11) 121 (nl T n + 1) (fun j => ((xs.getD j 0 : Nat) : Int))) ∧ Fr h h' (u + 11) (u + 13) ∧ sz' = sz) 0 0 h2 sz 88 [some (.ref u), some (vI q), some (vI (lnW T n i)), some (vI z)] [] := by
    intro k z h1 h2 R hk hz hs r1 r2 r3 hr hf
    refine kk h2 z k hk (srt_ins2 hx hk r3 hs) (hr.congr (fun j hj => ?_)) hf
    rw [ins_at (by omega)]
    by_cases e : j < k
    · rw [if_pos e, va_up_ne _ _ (by omega)]; exact r1 j e
    · rw [if_neg e]
      by_cases e2 : j = k
      · subst e2; rw [if_pos rfl, va_up_self, hq]
      · rw [if_neg e2, va_up_ne _ _ e2]; exact r2 j (by omega) (by omega)
  intro k
  induction k with
  | zero =>
    intro z h1 R hk hz ho hw hb hr r1 r2 r3 hf
    have hle := hr.le
    refine qV_iload_n (pc := 33) 3 dX5_sortsLines_33 rfl rfl ?_
    refine qV_ifle (pc := 34) 79 dX5_sortsLines_34 (by decide) ⟨by omega, by omega⟩ (fun c34 => ?_) (fun c34 => ?_)
    · refine qV_aload_n (pc := 79) 0 dX5_sortsLines_79 rfl rfl ?_
      refine qV_get (pc := 80) kX5 5 (le_b rfl) lk_X5_32 rfl dX5_sortsLines_80 (by first | assumption | exact hU_self _ _ _ | (refine (hU_ne (by omega)).trans ?_; first | assumption | exact hU_self _ _ _ | (refine (hU_ne (by omega)).trans ?_; first | assumption | exact hU_self _ _ _ | (refine (hU_ne (by omega)).trans ?_; first | assumption | exact hU_self _ _ _)))) (by exact rfl) ?_
      refine qV_iload_n (pc := 83) 3 dX5_sortsLines_83 rfl rfl ?_
      refine qV_iload_n (pc := 84) 1 dX5_sortsLines_84 rfl rfl ?_
      refine qV_voV (pc := 85) (c_set hr (i := 0) hz (by omega)) nX3_set kX3 lk_X5_101 dX5_sortsLines_85 hr.obj ⟨le_b rfl, le_b rfl⟩ ⟨le_b rfl, le_b rfl⟩ rfl (le_b rfl) ?_
      rintro h2 _ ⟨hr2, f2, rfl⟩
      exact hset 0 z h1 h2 R hk hz (Or.inl rfl) r1 r2 r3 hr2 (hf.trans f2)
    · exfalso; omega
  | succ k ih =>
    intro z h1 R hk hz ho hw hb hr r1 r2 r3 hf
    have hle := hr.le
    have hS : Sums h1 u n T 0 := ⟨ho, hw, hb, ⟨_, _, hr, fun e => by omega⟩, Or.inl rfl, hn⟩
    have hxk := hx.lt (j := k) (by omega)
    have hwk := lnW_in (T := T) (n := n) (k := xs.getD k 0) (by omega)
    have eR : R k = ((xs.getD k 0 : Nat) : Int) := r1 k (by omega)
    refine qV_iload_n (pc := 33) 3 dX5_sortsLines_33 rfl rfl ?_
    refine qV_ifle (pc := 34) 79 dX5_sortsLines_34 (by decide) ⟨by omega, by omega⟩ (fun c34 => ?_) (fun c34 => ?_)
    · exfalso; omega
    · refine qV_aload_n (pc := 37) 0 dX5_sortsLines_37 rfl rfl ?_
      refine qV_aload_n (pc := 38) 0 dX5_sortsLines_38 rfl rfl ?_
      refine qV_get (pc := 39) kX5 5 (le_b rfl) lk_X5_32 rfl dX5_sortsLines_39 (by first | assumption | exact hU_self _ _ _ | (refine (hU_ne (by omega)).trans ?_; first | assumption | exact hU_self _ _ _ | (refine (hU_ne (by omega)).trans ?_; first | assumption | exact hU_self _ _ _ | (refine (hU_ne (by omega)).trans ?_; first | assumption | exact hU_self _ _ _)))) (by exact rfl) ?_
      refine qV_iload_n (pc := 42) 3 dX5_sortsLines_42 rfl rfl ?_
      refine qV_iconst (pc := 43) dX5_sortsLines_43 ?_
      refine qV_isub (pc := 44) dX5_sortsLines_44 ?_
      refine qV_rdV (pc := 45) (c_gt hr (i := k) (by omega) (by omega)) nX3_get kX3 lk_X5_56 dX5_sortsLines_45 hr.obj ⟨le_b rfl, le_b rfl⟩ ⟨le_b rfl, le_b rfl⟩ rfl (le_b rfl) ?_
      rw [eR]
      refine qV_rdV (pc := 48) (c_lineWidth (k := xs.getD k 0) hS rfl (by omega)) nX5_lineWidth kX5 lk_X5_98 dX5_sortsLines_48 (by first | assumption | exact hU_self _ _ _ | (refine (hU_ne (by omega)).trans ?_; first | assumption | exact hU_self _ _ _ | (refine (hU_ne (by omega)).trans ?_; first | assumption | exact hU_self _ _ _ | (refine (hU_ne (by omega)).trans ?_; first | assumption | exact hU_self _ _ _)))) ⟨le_b rfl, le_b rfl⟩ ⟨le_b rfl, le_b rfl⟩ rfl (le_b rfl) ?_
      refine qV_iload_n (pc := 51) 2 dX5_sortsLines_51 rfl rfl ?_
      refine qV_icmp_ge (pc := 52) 79 dX5_sortsLines_52 (by decide) ⟨by omega, by omega⟩ ⟨by omega, by omega⟩ (fun c52 => ?_) (fun c52 => ?_)
      · refine qV_aload_n (pc := 79) 0 dX5_sortsLines_79 rfl rfl ?_
        refine qV_get (pc := 80) kX5 5 (le_b rfl) lk_X5_32 rfl dX5_sortsLines_80 (by first | assumption | exact hU_self _ _ _ | (refine (hU_ne (by omega)).trans ?_; first | assumption | exact hU_self _ _ _ | (refine (hU_ne (by omega)).trans ?_; first | assumption | exact hU_self _ _ _ | (refine (hU_ne (by omega)).trans ?_; first | assumption | exact hU_self _ _ _)))) (by exact rfl) ?_
        refine qV_iload_n (pc := 83) 3 dX5_sortsLines_83 rfl rfl ?_
        refine qV_iload_n (pc := 84) 1 dX5_sortsLines_84 rfl rfl ?_
        refine qV_voV (pc := 85) (c_set hr (i := k + 1) hz (by omega)) nX3_set kX3 lk_X5_101 dX5_sortsLines_85 hr.obj ⟨le_b rfl, le_b rfl⟩ ⟨le_b rfl, le_b rfl⟩ rfl (le_b rfl) ?_
        rintro h2 _ ⟨hr2, f2, rfl⟩
        exact hset (k + 1) z h1 h2 R hk hz (Or.inr (by rw [show k + 1 - 1 = k by omega]; exact c52)) r1 r2 r3 hr2 (hf.trans f2)
      · refine qV_aload_n (pc := 55) 0 dX5_sortsLines_55 rfl rfl ?_
        refine qV_get (pc := 56) kX5 5 (le_b rfl) lk_X5_32 rfl dX5_sortsLines_56 (by first | assumption | exact hU_self _ _ _ | (refine (hU_ne (by omega)).trans ?_; first | assumption | exact hU_self _ _ _ | (refine (hU_ne (by omega)).trans ?_; first | assumption | exact hU_self _ _ _ | (refine (hU_ne (by omega)).trans ?_; first | assumption | exact hU_self _ _ _)))) (by exact rfl) ?_
        refine qV_iload_n (pc := 59) 3 dX5_sortsLines_59 rfl rfl ?_
        refine qV_aload_n (pc := 60) 0 dX5_sortsLines_60 rfl rfl ?_
        refine qV_get (pc := 61) kX5 5 (le_b rfl) lk_X5_32 rfl dX5_sortsLines_61 (by first | assumption | exact hU_self _ _ _ | (refine (hU_ne (by omega)).trans ?_; first | assumption | exact hU_self _ _ _ | (refine (hU_ne (by omega)).trans ?_; first | assumption | exact hU_self _ _ _ | (refine (hU_ne (by omega)).trans ?_; first | assumption | exact hU_self _ _ _)))) (by exact rfl) ?_
        refine qV_iload_n (pc := 64) 3 dX5_sortsLines_64 rfl rfl ?_
        refine qV_iconst (pc := 65) dX5_sortsLines_65 ?_
        refine qV_isub (pc := 66) dX5_sortsLines_66 ?_
        refine qV_rdV (pc := 67) (c_gt hr (i := k) (by omega) (by omega)) nX3_get kX3 lk_X5_56 dX5_sortsLines_67 hr.obj ⟨le_b rfl, le_b rfl⟩ ⟨le_b rfl, le_b rfl⟩ rfl (le_b rfl) ?_
        rw [eR]
        refine qV_voV (pc := 70) (c_set hr (i := k + 1) hz (by omega)) nX3_set kX3 lk_X5_101 dX5_sortsLines_70 hr.obj ⟨le_b rfl, le_b rfl⟩ ⟨le_b rfl, le_b rfl⟩ rfl (le_b rfl) ?_
        rintro h2 _ ⟨hr2, f2, rfl⟩
        refine qV_iinc (pc := 73) 3 dX5_sortsLines_73 rfl (le_b rfl) (le_b rfl) rfl ?_
        refine qV_goto (pc := 76) 33 dX5_sortsLines_76 (by decide) ?_
        refine ih _ h2 _ (by omega) (by omega) ((f2 u (by omega)).trans ho) (hw.fr f2 (by omega)) (hb.fr f2 (by omega)) hr2 (fun j hj => ?_) (fun j hj hj2 => ?_) (fun j hj hj2 => ?_) (hf.trans f2)
        · rw [va_up_ne _ _ (by omega)]; exact r1 j (by omega)
        · by_cases e : j = k + 1
          · subst e; rw [va_up_self]; rfl
          · rw [va_up_ne _ _ e]; exact r2 j (by omega) hj2
        · by_cases e : j = k
          · subst e; omega
          · exact r3 j (by omega) hj2
set_option maxRecDepth 100000 in
set_option maxHeartbeats 4000000 in
theorem sort_outer (hn : n ≤ 120) (hu : h u = some (sob u 0)) (hW0 : SumW h u n T) (hB0 : Row h (u + 9) 121 (nl T n + 1) (fun k => ((lbN T n k : Nat) : Int))) : ∀ (m i : Nat) (q : Int) (h1 : qH) (xs : List Nat) (x2 x3 : Option Value), nl T n + 1 - i = m → i ≤ nl T n + 1 → q = i → srt (lnW T n) i xs → h1 u = some (sob u 0) → SumW h1 u n T → Row h1 (u + 9) 121 (nl T n + 1) (fun k => ((lbN T n k : Nat) : Int)) → Row h1 (u + 11) 121 i (fun j => ((xs.getD j 0 : Nat) : Int)) → Fr h h1 (u + 11) (u + 13) → qVM l mX5_sortsLines 0 0 h sz (fun v h' sz' => v = none ∧ (∃ xs, srt (lnW T n) (nl T n + 1) xs ∧ Row h' (u + 11) 121 (nl T n + 1) (fun j => ((xs.getD j 0 : Nat) : Int))) ∧ Fr h h' (u + 11) (u + 13) ∧ sz' = sz) 0 0 h1 sz 9 [some (.ref u), some (vI q), x2, x3] [] := by
  intro m
  induction m with
  | zero =>
    intro i q h1 xs x2 x3 hm hi hq hx ho hw hb hr hf
    obtain rfl : i = nl T n + 1 := by omega
    have hle := hr.le
    have hS : Sums h1 u n T 0 := ⟨ho, hw, hb, ⟨_, _, hr, fun e => by omega⟩, Or.inl rfl, hn⟩
    refine qV_iload_n (pc := 9) 1 dX5_sortsLines_9 rfl rfl ?_
    refine qV_aload_n (pc := 10) 0 dX5_sortsLines_10 rfl rfl ?_
    refine qV_rdV (pc := 11) (c_lines hS) nX5_lines kX5 lk_X5_89 dX5_sortsLines_11 (by first | assumption | exact hU_self _ _ _ | (refine (hU_ne (by omega)).trans ?_; first | assumption | exact hU_self _ _ _ | (refine (hU_ne (by omega)).trans ?_; first | assumption | exact hU_self _ _ _ | (refine (hU_ne (by omega)).trans ?_; first | assumption | exact hU_self _ _ _)))) ⟨le_b rfl, le_b rfl⟩ ⟨le_b rfl, le_b rfl⟩ rfl (le_b rfl) ?_
    refine qV_icmp_ge (pc := 14) 94 dX5_sortsLines_14 (by decide) ⟨by omega, by omega⟩ ⟨by omega, by omega⟩ (fun c14 => ?_) (fun c14 => ?_)
    · refine qV_vret (pc := 94) dX5_sortsLines_94 rfl (le_b rfl) (le_b rfl) ?_
      exact ⟨rfl, ⟨xs, hx, hr⟩, hf, rfl⟩
    · exfalso; omega
  | succ m ih =>
    intro i q h1 xs x2 x3 hm hi hq hx ho hw hb hr hf
    have hle := hr.le
    have hle2 := hb.le
    have hlen := hx.len
    have hS : Sums h1 u n T 0 := ⟨ho, hw, hb, ⟨_, _, hr, fun e => by omega⟩, Or.inl rfl, hn⟩
    refine qV_iload_n (pc := 9) 1 dX5_sortsLines_9 rfl rfl ?_
    refine qV_aload_n (pc := 10) 0 dX5_sortsLines_10 rfl rfl ?_
    refine qV_rdV (pc := 11) (c_lines hS) nX5_lines kX5 lk_X5_89 dX5_sortsLines_11 (by first | assumption | exact hU_self _ _ _ | (refine (hU_ne (by omega)).trans ?_; first | assumption | exact hU_self _ _ _ | (refine (hU_ne (by omega)).trans ?_; first | assumption | exact hU_self _ _ _ | (refine (hU_ne (by omega)).trans ?_; first | assumption | exact hU_self _ _ _)))) ⟨le_b rfl, le_b rfl⟩ ⟨le_b rfl, le_b rfl⟩ rfl (le_b rfl) ?_
    refine qV_icmp_ge (pc := 14) 94 dX5_sortsLines_14 (by decide) ⟨by omega, by omega⟩ ⟨by omega, by omega⟩ (fun c14 => ?_) (fun c14 => ?_)
    · exfalso; omega
    · refine qV_aload_n (pc := 17) 0 dX5_sortsLines_17 rfl rfl ?_
      refine qV_iload_n (pc := 18) 1 dX5_sortsLines_18 rfl rfl ?_
      refine qV_rdV (pc := 19) (c_lineWidth (k := i) hS hq (by omega)) nX5_lineWidth kX5 lk_X5_98 dX5_sortsLines_19 (by first | assumption | exact hU_self _ _ _ | (refine (hU_ne (by omega)).trans ?_; first | assumption | exact hU_self _ _ _ | (refine (hU_ne (by omega)).trans ?_; first | assumption | exact hU_self _ _ _ | (refine (hU_ne (by omega)).trans ?_; first | assumption | exact hU_self _ _ _)))) ⟨le_b rfl, le_b rfl⟩ ⟨le_b rfl, le_b rfl⟩ rfl (le_b rfl) ?_
      refine qV_istore_n (pc := 22) 2 dX5_sortsLines_22 rfl (le_b rfl) (le_b rfl) rfl ?_
      refine qV_aload_n (pc := 23) 0 dX5_sortsLines_23 rfl rfl ?_
      refine qV_get (pc := 24) kX5 5 (le_b rfl) lk_X5_32 rfl dX5_sortsLines_24 (by first | assumption | exact hU_self _ _ _ | (refine (hU_ne (by omega)).trans ?_; first | assumption | exact hU_self _ _ _ | (refine (hU_ne (by omega)).trans ?_; first | assumption | exact hU_self _ _ _ | (refine (hU_ne (by omega)).trans ?_; first | assumption | exact hU_self _ _ _)))) (by exact rfl) ?_
      refine qV_iload_n (pc := 27) 1 dX5_sortsLines_27 rfl rfl ?_
      refine qV_voV (pc := 28) (c_add hr (by omega)) nX3_add kX3 lk_X5_45 dX5_sortsLines_28 hr.obj ⟨le_b rfl, le_b rfl⟩ ⟨le_b rfl, le_b rfl⟩ rfl (le_b rfl) ?_
      rintro h2 _ ⟨hr2, f2, rfl⟩
      refine qV_iload_n (pc := 31) 1 dX5_sortsLines_31 rfl rfl ?_
      refine qV_istore_n (pc := 32) 3 dX5_sortsLines_32 rfl (le_b rfl) (le_b rfl) rfl ?_
      have ho2 := (f2 u (by omega)).trans ho
      have hw2 := hw.fr f2 (by omega)
      have hb2 := hb.fr f2 (by omega)
      refine sort_inner hn (by omega) hq hx (fun h3 z k hk hx3 hr3 hf3 => ?_) i _ h2 _ (Nat.le_refl i) hq ho2 hw2 hb2 hr2 (fun j hj => va_up_ne _ _ (by omega)) (fun j hj hj2 => by omega) (fun j hj hj2 => by omega) (hf.trans f2)
      refine qV_iinc (pc := 88) 1 dX5_sortsLines_88 rfl (le_b rfl) (le_b rfl) rfl ?_
      refine qV_goto (pc := 91) 9 dX5_sortsLines_91 (by decide) ?_
      exact ih (i + 1) _ h3 _ _ _ (by omega) (by omega) (by omega) hx3 ((hf3 u (by omega)).trans hu) (hW0.fr hf3 (by omega)) (hB0.fr hf3 (by omega)) hr3 hf3
set_option maxRecDepth 100000 in
set_option maxHeartbeats 4000000 in
theorem c_sortsLines (hs : Sums h u n T 0) : qVo l mX5_sortsLines 0 0 [.ref u] h sz (fun h' sz' => (∃ xs, srt (lnW T n) (nl T n + 1) xs ∧ Row h' (u + 11) 121 (nl T n + 1) (fun j => ((xs.getD j 0 : Nat) : Int))) ∧ Fr h h' (u + 11) (u + 13) ∧ sz' = sz) := by
  obtain ⟨ho, hw, hb, ⟨m, X, hx, -⟩, -, hn⟩ := hs
  refine qC.of 3 (by decide) (le_b rfl) ?_
  refine qV_aload_n (pc := 0) 0 dX5_sortsLines_0 rfl rfl ?_
  refine qV_get (pc := 1) kX5 5 (le_b rfl) lk_X5_32 rfl dX5_sortsLines_1 (by first | assumption | exact hU_self _ _ _ | (refine (hU_ne (by omega)).trans ?_; first | assumption | exact hU_self _ _ _ | (refine (hU_ne (by omega)).trans ?_; first | assumption | exact hU_self _ _ _ | (refine (hU_ne (by omega)).trans ?_; first | assumption | exact hU_self _ _ _)))) (by exact rfl) ?_
  refine qV_voV (pc := 4) (c_empties (fun j => (((([] : List Nat).getD j 0 : Nat)) : Int)) hx) nX3_empties kX3 lk_X5_38 dX5_sortsLines_4 hx.obj ⟨le_b rfl, le_b rfl⟩ ⟨le_b rfl, le_b rfl⟩ rfl (le_b rfl) ?_
  rintro h2 _ ⟨hr2, f2, rfl⟩
  refine qV_iconst (pc := 7) dX5_sortsLines_7 ?_
  refine qV_istore_n (pc := 8) 1 dX5_sortsLines_8 rfl (le_b rfl) (le_b rfl) rfl ?_
  exact sort_outer hn ho hw hb (nl T n + 1) 0 _ h2 [] _ _ (by omega) (by omega) rfl ⟨List.Perm.refl _, List.Pairwise.nil⟩ ((f2 u (by omega)).trans ho) (hw.fr f2 (by omega)) (hb.fr f2 (by omega)) hr2 f2
set_option maxRecDepth 100000 in
set_option maxHeartbeats 4000000 in
theorem c_lineByWidth {q : Int} {k : Nat} (hs : Sums h u n T s) (hq : q = k) (hk : k ≤ nl T n) : qRt l mX5_lineByWidth 0 0 [.ref u, vI q] h sz (fun w h' sz' => (∃ xs, srt (lnW T n) (nl T n + 1) xs ∧ w = vI ((xs.getD k 0 : Nat) : Int)) ∧ Sums h' u n T 1 ∧ Fr h h' u (u + 13) ∧ sz' = sz) := by
  obtain ⟨ho, hw, hb, ⟨m, X, hx, hx2⟩, hs1, hn⟩ := id hs
  refine qC.of 0 (by decide) (le_b rfl) ?_
  refine qV_aload_n (pc := 0) 0 dX5_lineByWidth_0 rfl rfl ?_
  refine qV_get (pc := 1) kX5 6 (le_b rfl) lk_X5_48 rfl dX5_lineByWidth_1 (by first | assumption | exact hU_self _ _ _ | (refine (hU_ne (by omega)).trans ?_; first | assumption | exact hU_self _ _ _ | (refine (hU_ne (by omega)).trans ?_; first | assumption | exact hU_self _ _ _ | (refine (hU_ne (by omega)).trans ?_; first | assumption | exact hU_self _ _ _)))) (by exact rfl) ?_
  refine qV_ifne (pc := 4) 16 dX5_lineByWidth_4 (by decide) ⟨by omega, by omega⟩ (fun c4 => ?_) (fun c4 => ?_)
  · obtain rfl : s = 1 := by omega
    obtain ⟨xs, x1, rfl, x3⟩ := hx2 rfl
    refine qV_aload_n (pc := 16) 0 dX5_lineByWidth_16 rfl rfl ?_
    refine qV_get (pc := 17) kX5 5 (le_b rfl) lk_X5_32 rfl dX5_lineByWidth_17 (by first | assumption | exact hU_self _ _ _ | (refine (hU_ne (by omega)).trans ?_; first | assumption | exact hU_self _ _ _ | (refine (hU_ne (by omega)).trans ?_; first | assumption | exact hU_self _ _ _ | (refine (hU_ne (by omega)).trans ?_; first | assumption | exact hU_self _ _ _)))) (by exact rfl) ?_
    refine qV_iload_n (pc := 20) 1 dX5_lineByWidth_20 rfl rfl ?_
    first
    | refine qV_rdV (pc := 21) (c_gt hx hq (by omega)) nX3_get kX3 lk_X5_56 dX5_lineByWidth_21 hx.obj ⟨le_b rfl, le_b rfl⟩ ⟨le_b rfl, le_b rfl⟩ rfl (le_b rfl) ?_
    | refine qV_rdV (pc := 21) (c_gt hr3 hq (by omega)) nX3_get kX3 lk_X5_56 dX5_lineByWidth_21 hr3.obj ⟨le_b rfl, le_b rfl⟩ ⟨le_b rfl, le_b rfl⟩ rfl (le_b rfl) ?_
    refine qV_iret (pc := 24) dX5_lineByWidth_24 rfl (le_b rfl) (le_b rfl) ?_
    first
    | exact ⟨_, rfl, ⟨xs, x1, by rw [x3 k (by omega)]⟩, hs, Fr.rf, rfl⟩
    | exact ⟨_, rfl, ⟨xs, x1, rfl⟩, ⟨ho3, (hw.fr f2 (by omega)).fr f3 (by omega), (hb.fr f2 (by omega)).fr f3 (by omega), ⟨_, _, hr3, fun _ => ⟨xs, x1, rfl, fun _ _ => rfl⟩⟩, Or.inr rfl, hn⟩, (f2.wide (by omega) (by omega)).trans (f3.wide (by omega) (by omega)), rfl⟩
  · obtain rfl : s = 0 := by omega
    refine qV_aload_n (pc := 7) 0 dX5_lineByWidth_7 rfl rfl ?_
    refine qV_voV (pc := 8) (c_sortsLines hs) nX5_sortsLines kX5 lk_X5_95 dX5_lineByWidth_8 (by first | assumption | exact hU_self _ _ _ | (refine (hU_ne (by omega)).trans ?_; first | assumption | exact hU_self _ _ _ | (refine (hU_ne (by omega)).trans ?_; first | assumption | exact hU_self _ _ _ | (refine (hU_ne (by omega)).trans ?_; first | assumption | exact hU_self _ _ _)))) ⟨le_b rfl, le_b rfl⟩ ⟨le_b rfl, le_b rfl⟩ rfl (le_b rfl) ?_
    rintro h2 _ ⟨⟨xs, x1, hr2⟩, f2, rfl⟩
    have ho2 := (f2 u (by omega)).trans ho
    have f3 : Fr h2 (hU h2 u (sob u 1)) u (u + 1) := Fr.hU (by omega) (by omega)
    have hr3 := hr2.fr f3 (by omega)
    have ho3 : hU h2 u (sob u 1) u = some (sob u 1) := hU_self _ _ _
    refine qV_aload_n (pc := 11) 0 dX5_lineByWidth_11 rfl rfl ?_
    refine qV_iconst (pc := 12) dX5_lineByWidth_12 ?_
    refine qV_put (pc := 13) kX5 6 (le_b rfl) lk_X5_48 rfl rfl rfl rfl dX5_lineByWidth_13 (by first | assumption | exact hU_self _ _ _ | (refine (hU_ne (by omega)).trans ?_; first | assumption | exact hU_self _ _ _ | (refine (hU_ne (by omega)).trans ?_; first | assumption | exact hU_self _ _ _ | (refine (hU_ne (by omega)).trans ?_; first | assumption | exact hU_self _ _ _)))) (by exact le_b rfl) ?_
    refine qV_aload_n (pc := 16) 0 dX5_lineByWidth_16 rfl rfl ?_
    refine qV_get (pc := 17) kX5 5 (le_b rfl) lk_X5_32 rfl dX5_lineByWidth_17 (by first | assumption | exact hU_self _ _ _ | (refine (hU_ne (by omega)).trans ?_; first | assumption | exact hU_self _ _ _ | (refine (hU_ne (by omega)).trans ?_; first | assumption | exact hU_self _ _ _ | (refine (hU_ne (by omega)).trans ?_; first | assumption | exact hU_self _ _ _)))) (by exact rfl) ?_
    refine qV_iload_n (pc := 20) 1 dX5_lineByWidth_20 rfl rfl ?_
    first
    | refine qV_rdV (pc := 21) (c_gt hx hq (by omega)) nX3_get kX3 lk_X5_56 dX5_lineByWidth_21 hx.obj ⟨le_b rfl, le_b rfl⟩ ⟨le_b rfl, le_b rfl⟩ rfl (le_b rfl) ?_
    | refine qV_rdV (pc := 21) (c_gt hr3 hq (by omega)) nX3_get kX3 lk_X5_56 dX5_lineByWidth_21 hr3.obj ⟨le_b rfl, le_b rfl⟩ ⟨le_b rfl, le_b rfl⟩ rfl (le_b rfl) ?_
    refine qV_iret (pc := 24) dX5_lineByWidth_24 rfl (le_b rfl) (le_b rfl) ?_
    first
    | exact ⟨_, rfl, ⟨xs, x1, by rw [x3 k (by omega)]⟩, hs, Fr.rf, rfl⟩
    | exact ⟨_, rfl, ⟨xs, x1, rfl⟩, ⟨ho3, (hw.fr f2 (by omega)).fr f3 (by omega), (hb.fr f2 (by omega)).fr f3 (by omega), ⟨_, _, hr3, fun _ => ⟨xs, x1, rfl, fun _ _ => rfl⟩⟩, Or.inr rfl, hn⟩, (f2.wide (by omega) (by omega)).trans (f3.wide (by omega) (by omega)), rfl⟩
set_option maxRecDepth 100000 in
set_option maxHeartbeats 4000000 in
theorem c_Sums_init (T : Nat → Int) (h1 : h u = some (oB 5 [.null, .null, .null, .null, .null, .null, vI 0])) (hs : sz = u + 1) : qVo l mX5_init 12 738 [.ref u] h sz (fun h' sz' => Sums h' u 0 T 0 ∧ Fr h h' u (u + 13) ∧ sz' = u + 13) := by
  subst hs
  refine qC.of 0 (by decide) (le_b rfl) ?_
  refine qV_aload_n (pc := 0) 0 dX5_init_0 rfl rfl ?_
  refine qV_objinit (pc := 1) lk_X5_3 dX5_init_1 (le_b rfl) (le_b rfl) ?_
  refine qV_aload_n (pc := 4) 0 dX5_init_4 rfl rfl ?_
  refine qV_new (pc := 5) [.null, vI 0] kX3 lk_X5_9 wb_X3 wn_X3 fs2 dX5_init_5 (le_b rfl) (le_b rfl) ?_
  refine qV_dup (pc := 8) dX5_init_8 rfl ?_
  refine qV_bipush (pc := 9) dX5_init_9 rfl ?_
  refine qV_voI (pc := 11) (c_Row_init (r := u + 1) (N := 121) (fun _ => 0) rfl (by omega) (hU_self _ _ _) rfl) nX3_init lk_X5_11 dX5_init_11 ⟨le_b rfl, le_b rfl⟩ ⟨le_b rfl, le_b rfl⟩ rfl (le_b rfl) ?_
  rintro g1 _ ⟨r0, f0, rfl⟩
  have o1 : g1 u = some (oB 5 [.null, .null, .null, .null, .null, .null, vI 0]) := (f0 u (by omega)).trans ((hU_ne (by omega)).trans h1)
  have e0 : Fr h g1 u (u + 13) := (Fr.hU (lo := u) (hi := u + 13) (by omega) (by omega)).trans (f0.wide (by omega) (by omega))
  refine qV_putF (pc := 14) kX5 0 (le_b rfl) lk_X5_14 rfl rfl rfl rfl rfl rfl dX5_init_14 (by first | assumption | exact hU_self _ _ _ | (refine (hU_ne (by omega)).trans ?_; first | assumption | exact hU_self _ _ _ | (refine (hU_ne (by omega)).trans ?_; first | assumption | exact hU_self _ _ _ | (refine (hU_ne (by omega)).trans ?_; first | assumption | exact hU_self _ _ _)))) (by exact le_b rfl) ?_
  refine qV_aload_n (pc := 17) 0 dX5_init_17 rfl rfl ?_
  refine qV_new (pc := 18) [.null, vI 0] kX3 lk_X5_9 wb_X3 wn_X3 fs2 dX5_init_18 (le_b rfl) (le_b rfl) ?_
  refine qV_dup (pc := 21) dX5_init_21 rfl ?_
  refine qV_bipush (pc := 22) dX5_init_22 rfl ?_
  refine qV_voI (pc := 24) (c_Row_init (r := u + 3) (N := 121) (fun _ => 0) rfl (by omega) (hU_self _ _ _) rfl) nX3_init lk_X5_11 dX5_init_24 ⟨le_b rfl, le_b rfl⟩ ⟨le_b rfl, le_b rfl⟩ rfl (le_b rfl) ?_
  rintro g2 _ ⟨r1, f1, rfl⟩
  have o2 : g2 u = some (oB 5 [.ref (u + 1), .null, .null, .null, .null, .null, vI 0]) := (f1 u (by omega)).trans ((hU_ne (by omega)).trans (hU_self _ _ _))
  have e1 : Fr g1 g2 u (u + 13) := ((Fr.hU (lo := u) (hi := u + 13) (by omega) (by omega)).trans (Fr.hU (by omega) (by omega))).trans (f1.wide (by omega) (by omega))
  have r0 := ((r0.fr (Fr.hU (lo := u) (hi := u + 1) (by omega) (by omega)) (by omega)).fr (Fr.hU (lo := u + 3) (hi := u + 4) (by omega) (by omega)) (by omega)).fr f1 (by omega)
  refine qV_putF (pc := 27) kX5 1 (le_b rfl) lk_X5_20 rfl rfl rfl rfl rfl rfl dX5_init_27 (by first | assumption | exact hU_self _ _ _ | (refine (hU_ne (by omega)).trans ?_; first | assumption | exact hU_self _ _ _ | (refine (hU_ne (by omega)).trans ?_; first | assumption | exact hU_self _ _ _ | (refine (hU_ne (by omega)).trans ?_; first | assumption | exact hU_self _ _ _)))) (by exact le_b rfl) ?_
  refine qV_aload_n (pc := 30) 0 dX5_init_30 rfl rfl ?_
  refine qV_new (pc := 31) [.null, vI 0] kX3 lk_X5_9 wb_X3 wn_X3 fs2 dX5_init_31 (le_b rfl) (le_b rfl) ?_
  refine qV_dup (pc := 34) dX5_init_34 rfl ?_
  refine qV_bipush (pc := 35) dX5_init_35 rfl ?_
  refine qV_voI (pc := 37) (c_Row_init (r := u + 5) (N := 121) (fun _ => 0) rfl (by omega) (hU_self _ _ _) rfl) nX3_init lk_X5_11 dX5_init_37 ⟨le_b rfl, le_b rfl⟩ ⟨le_b rfl, le_b rfl⟩ rfl (le_b rfl) ?_
  rintro g3 _ ⟨r2, f2, rfl⟩
  have o3 : g3 u = some (oB 5 [.ref (u + 1), .ref (u + 3), .null, .null, .null, .null, vI 0]) := (f2 u (by omega)).trans ((hU_ne (by omega)).trans (hU_self _ _ _))
  have e2 : Fr g2 g3 u (u + 13) := ((Fr.hU (lo := u) (hi := u + 13) (by omega) (by omega)).trans (Fr.hU (by omega) (by omega))).trans (f2.wide (by omega) (by omega))
  have r0 := ((r0.fr (Fr.hU (lo := u) (hi := u + 1) (by omega) (by omega)) (by omega)).fr (Fr.hU (lo := u + 5) (hi := u + 6) (by omega) (by omega)) (by omega)).fr f2 (by omega)
  have r1 := ((r1.fr (Fr.hU (lo := u) (hi := u + 1) (by omega) (by omega)) (by omega)).fr (Fr.hU (lo := u + 5) (hi := u + 6) (by omega) (by omega)) (by omega)).fr f2 (by omega)
  refine qV_putF (pc := 40) kX5 2 (le_b rfl) lk_X5_23 rfl rfl rfl rfl rfl rfl dX5_init_40 (by first | assumption | exact hU_self _ _ _ | (refine (hU_ne (by omega)).trans ?_; first | assumption | exact hU_self _ _ _ | (refine (hU_ne (by omega)).trans ?_; first | assumption | exact hU_self _ _ _ | (refine (hU_ne (by omega)).trans ?_; first | assumption | exact hU_self _ _ _)))) (by exact le_b rfl) ?_
  refine qV_aload_n (pc := 43) 0 dX5_init_43 rfl rfl ?_
  refine qV_new (pc := 44) [.null, vI 0] kX3 lk_X5_9 wb_X3 wn_X3 fs2 dX5_init_44 (le_b rfl) (le_b rfl) ?_
  refine qV_dup (pc := 47) dX5_init_47 rfl ?_
  refine qV_bipush (pc := 48) dX5_init_48 rfl ?_
  refine qV_voI (pc := 50) (c_Row_init (r := u + 7) (N := 121) (fun _ => 0) rfl (by omega) (hU_self _ _ _) rfl) nX3_init lk_X5_11 dX5_init_50 ⟨le_b rfl, le_b rfl⟩ ⟨le_b rfl, le_b rfl⟩ rfl (le_b rfl) ?_
  rintro g4 _ ⟨r3, f3, rfl⟩
  have o4 : g4 u = some (oB 5 [.ref (u + 1), .ref (u + 3), .ref (u + 5), .null, .null, .null, vI 0]) := (f3 u (by omega)).trans ((hU_ne (by omega)).trans (hU_self _ _ _))
  have e3 : Fr g3 g4 u (u + 13) := ((Fr.hU (lo := u) (hi := u + 13) (by omega) (by omega)).trans (Fr.hU (by omega) (by omega))).trans (f3.wide (by omega) (by omega))
  have r0 := ((r0.fr (Fr.hU (lo := u) (hi := u + 1) (by omega) (by omega)) (by omega)).fr (Fr.hU (lo := u + 7) (hi := u + 8) (by omega) (by omega)) (by omega)).fr f3 (by omega)
  have r1 := ((r1.fr (Fr.hU (lo := u) (hi := u + 1) (by omega) (by omega)) (by omega)).fr (Fr.hU (lo := u + 7) (hi := u + 8) (by omega) (by omega)) (by omega)).fr f3 (by omega)
  have r2 := ((r2.fr (Fr.hU (lo := u) (hi := u + 1) (by omega) (by omega)) (by omega)).fr (Fr.hU (lo := u + 7) (hi := u + 8) (by omega) (by omega)) (by omega)).fr f3 (by omega)
  refine qV_putF (pc := 53) kX5 3 (le_b rfl) lk_X5_26 rfl rfl rfl rfl rfl rfl dX5_init_53 (by first | assumption | exact hU_self _ _ _ | (refine (hU_ne (by omega)).trans ?_; first | assumption | exact hU_self _ _ _ | (refine (hU_ne (by omega)).trans ?_; first | assumption | exact hU_self _ _ _ | (refine (hU_ne (by omega)).trans ?_; first | assumption | exact hU_self _ _ _)))) (by exact le_b rfl) ?_
  refine qV_aload_n (pc := 56) 0 dX5_init_56 rfl rfl ?_
  refine qV_new (pc := 57) [.null, vI 0] kX3 lk_X5_9 wb_X3 wn_X3 fs2 dX5_init_57 (le_b rfl) (le_b rfl) ?_
  refine qV_dup (pc := 60) dX5_init_60 rfl ?_
  refine qV_bipush (pc := 61) dX5_init_61 rfl ?_
  refine qV_voI (pc := 63) (c_Row_init (r := u + 9) (N := 121) (fun _ => 0) rfl (by omega) (hU_self _ _ _) rfl) nX3_init lk_X5_11 dX5_init_63 ⟨le_b rfl, le_b rfl⟩ ⟨le_b rfl, le_b rfl⟩ rfl (le_b rfl) ?_
  rintro g5 _ ⟨r4, f4, rfl⟩
  have o5 : g5 u = some (oB 5 [.ref (u + 1), .ref (u + 3), .ref (u + 5), .ref (u + 7), .null, .null, vI 0]) := (f4 u (by omega)).trans ((hU_ne (by omega)).trans (hU_self _ _ _))
  have e4 : Fr g4 g5 u (u + 13) := ((Fr.hU (lo := u) (hi := u + 13) (by omega) (by omega)).trans (Fr.hU (by omega) (by omega))).trans (f4.wide (by omega) (by omega))
  have r0 := ((r0.fr (Fr.hU (lo := u) (hi := u + 1) (by omega) (by omega)) (by omega)).fr (Fr.hU (lo := u + 9) (hi := u + 10) (by omega) (by omega)) (by omega)).fr f4 (by omega)
  have r1 := ((r1.fr (Fr.hU (lo := u) (hi := u + 1) (by omega) (by omega)) (by omega)).fr (Fr.hU (lo := u + 9) (hi := u + 10) (by omega) (by omega)) (by omega)).fr f4 (by omega)
  have r2 := ((r2.fr (Fr.hU (lo := u) (hi := u + 1) (by omega) (by omega)) (by omega)).fr (Fr.hU (lo := u + 9) (hi := u + 10) (by omega) (by omega)) (by omega)).fr f4 (by omega)
  have r3 := ((r3.fr (Fr.hU (lo := u) (hi := u + 1) (by omega) (by omega)) (by omega)).fr (Fr.hU (lo := u + 9) (hi := u + 10) (by omega) (by omega)) (by omega)).fr f4 (by omega)
  refine qV_putF (pc := 66) kX5 4 (le_b rfl) lk_X5_29 rfl rfl rfl rfl rfl rfl dX5_init_66 (by first | assumption | exact hU_self _ _ _ | (refine (hU_ne (by omega)).trans ?_; first | assumption | exact hU_self _ _ _ | (refine (hU_ne (by omega)).trans ?_; first | assumption | exact hU_self _ _ _ | (refine (hU_ne (by omega)).trans ?_; first | assumption | exact hU_self _ _ _)))) (by exact le_b rfl) ?_
  refine qV_aload_n (pc := 69) 0 dX5_init_69 rfl rfl ?_
  refine qV_new (pc := 70) [.null, vI 0] kX3 lk_X5_9 wb_X3 wn_X3 fs2 dX5_init_70 (le_b rfl) (le_b rfl) ?_
  refine qV_dup (pc := 73) dX5_init_73 rfl ?_
  refine qV_bipush (pc := 74) dX5_init_74 rfl ?_
  refine qV_voI (pc := 76) (c_Row_init (r := u + 11) (N := 121) (fun _ => 0) rfl (by omega) (hU_self _ _ _) rfl) nX3_init lk_X5_11 dX5_init_76 ⟨le_b rfl, le_b rfl⟩ ⟨le_b rfl, le_b rfl⟩ rfl (le_b rfl) ?_
  rintro g6 _ ⟨r5, f5, rfl⟩
  have o6 : g6 u = some (oB 5 [.ref (u + 1), .ref (u + 3), .ref (u + 5), .ref (u + 7), .ref (u + 9), .null, vI 0]) := (f5 u (by omega)).trans ((hU_ne (by omega)).trans (hU_self _ _ _))
  have e5 : Fr g5 g6 u (u + 13) := ((Fr.hU (lo := u) (hi := u + 13) (by omega) (by omega)).trans (Fr.hU (by omega) (by omega))).trans (f5.wide (by omega) (by omega))
  have r0 := ((r0.fr (Fr.hU (lo := u) (hi := u + 1) (by omega) (by omega)) (by omega)).fr (Fr.hU (lo := u + 11) (hi := u + 12) (by omega) (by omega)) (by omega)).fr f5 (by omega)
  have r1 := ((r1.fr (Fr.hU (lo := u) (hi := u + 1) (by omega) (by omega)) (by omega)).fr (Fr.hU (lo := u + 11) (hi := u + 12) (by omega) (by omega)) (by omega)).fr f5 (by omega)
  have r2 := ((r2.fr (Fr.hU (lo := u) (hi := u + 1) (by omega) (by omega)) (by omega)).fr (Fr.hU (lo := u + 11) (hi := u + 12) (by omega) (by omega)) (by omega)).fr f5 (by omega)
  have r3 := ((r3.fr (Fr.hU (lo := u) (hi := u + 1) (by omega) (by omega)) (by omega)).fr (Fr.hU (lo := u + 11) (hi := u + 12) (by omega) (by omega)) (by omega)).fr f5 (by omega)
  have r4 := ((r4.fr (Fr.hU (lo := u) (hi := u + 1) (by omega) (by omega)) (by omega)).fr (Fr.hU (lo := u + 11) (hi := u + 12) (by omega) (by omega)) (by omega)).fr f5 (by omega)
  refine qV_putF (pc := 79) kX5 5 (le_b rfl) lk_X5_32 rfl rfl rfl rfl rfl rfl dX5_init_79 (by first | assumption | exact hU_self _ _ _ | (refine (hU_ne (by omega)).trans ?_; first | assumption | exact hU_self _ _ _ | (refine (hU_ne (by omega)).trans ?_; first | assumption | exact hU_self _ _ _ | (refine (hU_ne (by omega)).trans ?_; first | assumption | exact hU_self _ _ _)))) (by exact le_b rfl) ?_
  refine qV_aload_n (pc := 82) 0 dX5_init_82 rfl rfl ?_
  have f9 : ∀ e : qE, Fr g6 (hU g6 u e) u (u + 1) := fun e => Fr.hU (by omega) (by omega)
  refine qV_voV (pc := 83) (c_startsOver (s := 0) (hU_self _ _ _) (r0.fr (f9 _) (by omega)) (r1.fr (f9 _) (by omega)) (r2.fr (f9 _) (by omega)) (r3.fr (f9 _) (by omega)) (r4.fr (f9 _) (by omega)) (r5.fr (f9 _) (by omega)) T) nX5_startsOver kX5 lk_X5_35 dX5_init_83 (by first | assumption | exact hU_self _ _ _ | (refine (hU_ne (by omega)).trans ?_; first | assumption | exact hU_self _ _ _ | (refine (hU_ne (by omega)).trans ?_; first | assumption | exact hU_self _ _ _ | (refine (hU_ne (by omega)).trans ?_; first | assumption | exact hU_self _ _ _)))) ⟨le_b rfl, le_b rfl⟩ ⟨le_b rfl, le_b rfl⟩ rfl (le_b rfl) ?_
  rintro g8 _ ⟨s8, f8, rfl⟩
  refine qV_vret (pc := 86) dX5_init_86 rfl (le_b rfl) (le_b rfl) ?_
  exact ⟨rfl, s8, ((((((e0.trans e1).trans e2).trans e3).trans e4).trans e5).trans ((f9 _).wide (by omega) (by omega))).trans f8, rfl⟩
end SUMS2
